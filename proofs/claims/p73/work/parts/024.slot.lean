def wk_c_X6_begin : List Cond := .code yX6_begin cX6_begin 4 none :: ([.fieldLink RX6 15 "SagMemory$Slot" "has" "Z", .fieldLink RX6 19 "SagMemory$Slot" "width" "I", .fieldLink RX6 23 "SagMemory$Slot" "length" "I", .fieldLink RX6 9 "SagMemory$Slot" "numbers" "[J"] ++ (wsX60 ++ []))
theorem wkg_c_X6_begin : wk_c_X6_begin.all goodWord = true := by decide +kernel
set_option maxHeartbeats 4000000 in
set_option maxRecDepth 100000 in
theorem c_X6_begin (l : Launch) (dC : Nat → ClassId) (dI : Nat → Nat → Nat) (k : Nat → ClassId) (sz : Nat) (qL : Nat → Nat) (vL : Nat → Int32) (sL : Nat → Int32) (lL : Nat → Nat → Int64) (p1 : Int32) (p2 : Int32) (hsL : Rg 0 60 sL) (hp0 : 0 ≤ p2.toInt ∧ p2.toInt ≤ 60) : Met l yX6_begin wk_c_X6_begin ({ frames := 0, cells := 0, slots := 0, locals := 0 }) (va_Pc [.ref (qL 0), .int p1, .int p2] (fun U => U.heap.size = sz ∧ va_P (dC, dI) vwCl (List.flatten [(wSlot qL k vL sL lL)] ++ List.flatten ([] : List va_W)) U.heap ∧ va_K (dC, dI) vwCl (tK k) U ∧ va_D (fun _ => True) (List.flatten [(wSlot qL k vL sL lL)] ++ List.flatten ([] : List va_W)))) (va_Qv (fun _ : Unit => True) (fun (_ : Unit) (t : State) => ∃ (vL' : Nat → Int32) (sL' : Nat → Int32) (lL' : Nat → Nat → Int64), Rg 0 60 sL' ∧ va_P (dC, dI) vwCl (List.flatten [(wSlot qL k vL' sL' lL')] ++ List.flatten ([] : List va_W)) t.heap) (va_A (List.flatten [(wSlot qL k vL sL lL)] ++ List.flatten ([] : List va_W)) sz)) 0 0 (va_A (List.flatten [(wSlot qL k vL sL lL)] ++ List.flatten ([] : List va_W)) sz) := by
  refine Met.ofW (cc := cX6_begin) (maxL := 4) (ret := none) (by decide) rfl ?_
  intro p e s m args below meth c s₁ B hml hv
  obtain ⟨rfl, hsz, hP, hK, hD0⟩ := hv
  have hx := B.exec
  have hb := B.bytes
  have hr := B.returns
  have hts := atoms_spec (ws := wk_c_X6_begin) B.pre
  have hown : s.vm.findClass RX6 = some m.cls := findClass_of_methodNamed B.named
  have hlocks := B.notSynchronized
  subst hsz
  have hD := hD0.self (sz := s.heap.size)
  generalize hAe : va_A (List.flatten [(wSlot qL k vL sL lL)] ++ List.flatten ([] : List va_W)) s.heap.size = A at hD ⊢
  have hA : ∀ q : Nat, s.heap.size ≤ q → A q := fun q h => by rw [← hAe]; exact Or.inr h
  have hS : va_S A s.heap s.heap [] := va_S.rf
  have hP : va_P (dC, dI) vwCl (List.flatten [(wSlot qL k vL sL lL)] ++ List.flatten ([] : List va_W)) s.heap := hP
  have hl := lv_entry ([.ref (qL 0), .int p1, .int p2]) (n := 4) (Nat.le_of_ble_eq_true rfl)
  rw [lg_entry_eq]
  generalize (lg_sl ([.ref (qL 0), .int p1, .int p2]) ++ List.replicate (4 - (lg_sl ([.ref (qL 0), .int p1, .int p2])).length) Slot.unset).toArray = ls at hl ⊢
  have hl : lv_has ls 4 [(0, .ref (qL 0)), (1, .int p1), (2, .int p2)] := hl
  refine w_gen (fun Q hQ => ?_)
  refine lv_aload_n hx hb dX6_begin_0 rfl (lv_at hl 0 rfl) ?_
  refine lv_iconst (v := 1) hx hb dX6_begin_1 (by decide) ?_
  refine va_put (D := (dC, dI)) (ci := 6) (v := .int 1) (ty := .boolean) (C := RX6) (T := TX6) (N := 4) hx hb hts (fun w h => List.mem_cons_of_mem _ (List.mem_append_right _ (List.mem_append_left _ h))) tyX6 tyX6_ok nmX6 hown hK hP hD hS 0 rfl rfl 1 (by decide) (hts (.fieldLink RX6 15 "SagMemory$Slot" "has" "Z") (wl_mem 0 rfl)) (fun _ h9 => h9) rfl (by decide +kernel) rfl rfl (Nat.le_of_ble_eq_true rfl) dX6_begin_2 (fun H locs hP hD hS => ?_)
  have hP : va_P (dC, dI) vwCl (List.flatten [(wSlot qL k (va_up vL 0 (1 : Int32)) sL lL)] ++ List.flatten ([] : List va_W)) H := hP
  have hD : va_D A (List.flatten [(wSlot qL k (va_up vL 0 (1 : Int32)) sL lL)] ++ List.flatten ([] : List va_W)) := hD
  refine lv_aload_n hx hb dX6_begin_5 rfl (lv_at hl 0 rfl) ?_
  refine lv_iload_n hx hb dX6_begin_6 rfl (lv_at hl 1 rfl) ?_
  refine va_put (D := (dC, dI)) (ci := 6) (v := .int p1) (ty := .int) (C := RX6) (T := TX6) (N := 4) hx hb hts (fun w h => List.mem_cons_of_mem _ (List.mem_append_right _ (List.mem_append_left _ h))) tyX6 tyX6_ok nmX6 hown hK hP hD hS 0 rfl rfl 2 (by decide) (hts (.fieldLink RX6 19 "SagMemory$Slot" "width" "I") (wl_mem 1 rfl)) (fun _ h9 => h9) rfl (by decide +kernel) rfl rfl (Nat.le_of_ble_eq_true rfl) dX6_begin_7 (fun H locs hP hD hS => ?_)
  have hP : va_P (dC, dI) vwCl (List.flatten [(wSlot qL k (va_up (va_up vL 0 (1 : Int32)) 1 p1) sL lL)] ++ List.flatten ([] : List va_W)) H := hP
  have hD : va_D A (List.flatten [(wSlot qL k (va_up (va_up vL 0 (1 : Int32)) 1 p1) sL lL)] ++ List.flatten ([] : List va_W)) := hD
  refine lv_aload_n hx hb dX6_begin_10 rfl (lv_at hl 0 rfl) ?_
  refine lv_iload_n hx hb dX6_begin_11 rfl (lv_at hl 2 rfl) ?_
  refine va_put (D := (dC, dI)) (ci := 6) (v := .int p2) (ty := .int) (C := RX6) (T := TX6) (N := 4) hx hb hts (fun w h => List.mem_cons_of_mem _ (List.mem_append_right _ (List.mem_append_left _ h))) tyX6 tyX6_ok nmX6 hown hK hP hD hS 0 rfl rfl 3 (by decide) (hts (.fieldLink RX6 23 "SagMemory$Slot" "length" "I") (wl_mem 2 rfl)) (fun _ h9 => h9) rfl (by decide +kernel) rfl rfl (Nat.le_of_ble_eq_true rfl) dX6_begin_12 (fun H locs hP hD hS => ?_)
  have hP : va_P (dC, dI) vwCl (List.flatten [(wSlot qL k (va_up (va_up vL 0 (1 : Int32)) 1 p1) (va_up sL 0 p2) lL)] ++ List.flatten ([] : List va_W)) H := hP
  have hD : va_D A (List.flatten [(wSlot qL k (va_up (va_up vL 0 (1 : Int32)) 1 p1) (va_up sL 0 p2) lL)] ++ List.flatten ([] : List va_W)) := hD
  refine lv_iconst (v := 0) hx hb dX6_begin_15 (by decide) ?_
  refine lv_istore_n (lv' := [(3, .int 0), (0, .ref (qL 0)), (1, .int p1), (2, .int p2)]) hx hb dX6_begin_16 rfl hl (by decide) rfl (fun ls hl => ?_)
  have lp17_kz14 : ∀ (n9_17 : Nat) (H : Heap) (locs : List Loc) (ls : Array Slot) (lz12 : Nat → Nat → Int64) (xz13 : Int32), (2147483647 - xz13.toInt).toNat < n9_17 → 0 ≤ xz13.toInt → va_P (dC, dI) vwCl (List.flatten [(wSlot qL k (va_up (va_up vL 0 (1 : Int32)) 1 p1) (va_up sL 0 p2) lz12)] ++ List.flatten ([] : List va_W)) H → va_D A (List.flatten [(wSlot qL k (va_up (va_up vL 0 (1 : Int32)) 1 p1) (va_up sL 0 p2) lz12)] ++ List.flatten ([] : List va_W)) → va_S A s.heap H locs → lv_has ls 4 [(0, .ref (qL 0)), (3, .int xz13)] → W p l e (headSpec wk_c_X6_begin ({ frames := 0, cells := 0, slots := 0, locals := 0 })).room s m ([.ref (qL 0), .int p1, .int p2] : List Value).toArray below meth c H locs 0 0 Q (F0 m 17 ls []) := by
    intro n9_17
    induction n9_17 with
    | zero => intro H locs ls lz12 xz13 hm; exact absurd hm (Nat.not_lt_zero _)
    | succ n9_17 ih17 =>
      intro H locs ls lz12 xz13 hm17 jz15 hP hD hS hl
      refine lv_iload_n hx hb dX6_begin_17 rfl (lv_at hl 1 rfl) ?_
      refine lv_bipush (v := 60) hx hb dX6_begin_18 (by decide) ?_
      refine lv_icmp_ge (tgt := 36) hx hb dX6_begin_20 (by decide) (fun cz16 => ?_) (fun cz16 => ?_)
      · skip
        have bz17 := fb_rng xz13
        have zz18 : (60 : Int) ≤ xz13.toInt := zi_le.mp cz16
        rw [hQ]
        exact W.vret hx hb hr (fun t ht hW => ⟨⟨(), rfl, trivial, (va_up (va_up vL 0 (1 : Int32)) 1 p1), (va_up sL 0 p2), lz12, (rg_up hsL (by show 0 ≤ p2.toInt ∧ p2.toInt ≤ 60; omega)), by rw [ht]; exact hP⟩, hS.F ht⟩) hS.2.2 dX6_begin_36
      · skip
        have bz19 := fb_rng xz13
        have zz20 : ¬ (60 : Int) ≤ xz13.toInt := fun h9 => cz16 (zi_le.mpr h9)
        refine lv_aload_n hx hb dX6_begin_23 rfl (lv_at hl 0 rfl) ?_
        refine va_get (D := (dC, dI)) (ci := 6) (v := .ref (qL 1)) (C := RX6) (T := TX6) (N := 4) hx hb hts (fun w h => List.mem_cons_of_mem _ (List.mem_append_right _ (List.mem_append_left _ h))) hown hK hP 0 rfl rfl 0 (by decide) (hts (.fieldLink RX6 9 "SagMemory$Slot" "numbers" "[J") (wl_mem 3 rfl)) (fun _ h9 => h9) rfl dX6_begin_24 ?_
        refine lv_iload_n hx hb dX6_begin_27 rfl (lv_at hl 1 rfl) ?_
        refine lv_lconst (v := 0) hx hb dX6_begin_28 (by decide) ?_
        refine va_last hx hb hK hP hD hS 1 1 rfl rfl (vp_in_iff.mpr ⟨by omega, by omega⟩) dX6_begin_29 (fun H locs hP hD hS => ?_)
        obtain ⟨fz21, efz21, hP, hD⟩ : ∃ fz21 : Nat → Int64, fz21 = vp_updL (lz12 0) xz13.toNatClampNeg (0 : Int64) ∧ va_P (dC, dI) vwCl (List.flatten [(wSlot qL k (va_up (va_up vL 0 (1 : Int32)) 1 p1) (va_up sL 0 p2) (va_up lz12 0 fz21))] ++ List.flatten ([] : List va_W)) H ∧ va_D A (List.flatten [(wSlot qL k (va_up (va_up vL 0 (1 : Int32)) 1 p1) (va_up sL 0 p2) (va_up lz12 0 fz21))] ++ List.flatten ([] : List va_W)) := ⟨_, rfl, hP, hD⟩
        have kfz21 : fz21 xz13.toNatClampNeg = (0 : Int64) := by rw [efz21]; exact pk_uLs
        obtain ⟨xz22, exz22⟩ : ∃ y : Int32, y = xz13 + Int32.ofInt (1) := ⟨_, rfl⟩
        have fxz22 : xz22.toInt = xz13.toInt + (1) := by rw [exz22]; exact fb_addI (y := Int32.ofInt (1)) (by show -2147483648 ≤ xz13.toInt + (1); omega) (by show xz13.toInt + (1) < 2147483648; omega)
        refine lv_iinc (v := xz22) (lv' := [(3, .int xz22), (0, .ref (qL 0))]) hx hb dX6_begin_30 hl (k := 1) rfl exz22.symm (by decide) rfl (fun ls hl => ?_)
        refine lv_goto (tgt := 17) hx hb dX6_begin_33 (by decide) ?_
        exact ih17 H locs ls (va_up lz12 0 fz21) xz22 (by show (2147483647 - xz22.toInt).toNat < n9_17; omega) (by show 0 ≤ xz22.toInt; omega) hP hD hS (lv_sub hl [1, 0] rfl)
  exact lp17_kz14 _ H locs ls lL (0 : Int32) (Nat.lt_succ_self _) (by show 0 ≤ (0 : Int); omega) hP hD hS (lv_sub hl [1, 0] rfl)
def wk_c_X6_cut : List Cond := .code yX6_cut cX6_cut 3 (some .long) :: ([.fieldLink RX6 19 "SagMemory$Slot" "width" "I"] ++ (wsX60 ++ []))
theorem wkg_c_X6_cut : wk_c_X6_cut.all goodWord = true := by decide +kernel
set_option maxHeartbeats 4000000 in
set_option maxRecDepth 100000 in
theorem c_X6_cut (l : Launch) (dC : Nat → ClassId) (dI : Nat → Nat → Nat) (k : Nat → ClassId) (qL : Nat → Nat) (vL : Nat → Int32) (sL : Nat → Int32) (lL : Nat → Nat → Int64) (p1 : Int64) (hsL : Rg 0 60 sL) : Met l yX6_cut wk_c_X6_cut ({ frames := 0, cells := 0, slots := 0, locals := 0 }) (va_Pc [.ref (qL 0), .long p1] (fun U => va_P (dC, dI) vwCl (List.flatten [(wSlot qL k vL sL lL)]) U.heap ∧ va_K (dC, dI) vwCl (tK k) U)) (vp_Sl (fun r : Int64 => True)) 0 0 (fun _ => False) := by
  refine Met.ofW (cc := cX6_cut) (maxL := 3) (ret := (some .long)) (by decide) rfl ?_
  intro p e s m args below meth c s₁ B hml hv
  obtain ⟨rfl, hP, hK⟩ := hv
  have hx := B.exec
  have hb := B.bytes
  have hr := B.returns
  have hts := atoms_spec (ws := wk_c_X6_cut) B.pre
  have hown : s.vm.findClass RX6 = some m.cls := findClass_of_methodNamed B.named
  have hlocks := B.notSynchronized
  have hP : va_P (dC, dI) vwCl (List.flatten [(wSlot qL k vL sL lL)]) s.heap := hP
  have hl := lv_entry ([.ref (qL 0), .long p1]) (n := 3) (Nat.le_of_ble_eq_true rfl)
  rw [lg_entry_eq]
  generalize (lg_sl ([.ref (qL 0), .long p1]) ++ List.replicate (3 - (lg_sl ([.ref (qL 0), .long p1])).length) Slot.unset).toArray = ls at hl ⊢
  have hl : lv_has ls 3 [(0, .ref (qL 0)), (1, .long p1)] := hl
  refine w_gen (fun Q hQ => ?_)
  refine lv_aload_n hx hb dX6_cut_0 rfl (lv_at hl 0 rfl) ?_
  refine va_get (D := (dC, dI)) (ci := 6) (v := .int (vL 1)) (C := RX6) (T := TX6) (N := 4) hx hb hts (fun w h => List.mem_cons_of_mem _ (List.mem_append_right _ (List.mem_append_left _ h))) hown hK hP 0 rfl rfl 2 (by decide) (hts (.fieldLink RX6 19 "SagMemory$Slot" "width" "I") (wl_mem 0 rfl)) (fun _ h9 => h9) rfl dX6_cut_1 ?_
  by_cases cz1 : (vL 1) = 0
  · skip
    have zz2 : (vL 1).toInt = (0 : Int) := zi_eq.mp cz1
    refine lv_tableIn (off := 28) (tgt := 32) hx hb dX6_cut_4 (by rw [cz1]; decide) (by rw [cz1]; decide) (by rw [cz1]; rfl) (by decide) ?_
    refine lv_lload_n hx hb dX6_cut_32 rfl (lv_at hl 1 rfl) ?_
    refine lv_l2i hx hb dX6_cut_33 rfl ?_
    refine lv_topi (fun xz3 exz3 => ?_)
    refine lv_i2b hx hb dX6_cut_34 rfl ?_
    refine lv_topi (fun xz4 exz4 => ?_)
    refine lv_i2l hx hb dX6_cut_35 rfl ?_
    rw [hQ]
    exact W.lret (v := xz4.toInt64) hx hb hr (fun t ht hW => ⟨xz4.toInt64, rfl, trivial, ht⟩) (fun _ h => absurd h List.not_mem_nil) dX6_cut_36
  · skip
    have zz5 : ¬ (vL 1).toInt = (0 : Int) := fun h9 => cz1 (zi_eq.mpr h9)
    by_cases cz6 : (vL 1) = 1
    · skip
      have zz7 : (vL 1).toInt = (1 : Int) := zi_eq.mp cz6
      refine lv_tableIn (off := 33) (tgt := 37) hx hb dX6_cut_4 (by rw [cz6]; decide) (by rw [cz6]; decide) (by rw [cz6]; rfl) (by decide) ?_
      refine lv_lload_n hx hb dX6_cut_37 rfl (lv_at hl 1 rfl) ?_
      refine lv_l2i hx hb dX6_cut_38 rfl ?_
      refine lv_topi (fun xz8 exz8 => ?_)
      refine lv_i2s hx hb dX6_cut_39 rfl ?_
      refine lv_topi (fun xz9 exz9 => ?_)
      refine lv_i2l hx hb dX6_cut_40 rfl ?_
      rw [hQ]
      exact W.lret (v := xz9.toInt64) hx hb hr (fun t ht hW => ⟨xz9.toInt64, rfl, trivial, ht⟩) (fun _ h => absurd h List.not_mem_nil) dX6_cut_41
    · skip
      have zz10 : ¬ (vL 1).toInt = (1 : Int) := fun h9 => cz6 (zi_eq.mpr h9)
      by_cases cz11 : (vL 1) = 2
      · skip
        have zz12 : (vL 1).toInt = (2 : Int) := zi_eq.mp cz11
        refine lv_tableIn (off := 38) (tgt := 42) hx hb dX6_cut_4 (by rw [cz11]; decide) (by rw [cz11]; decide) (by rw [cz11]; rfl) (by decide) ?_
        refine lv_lload_n hx hb dX6_cut_42 rfl (lv_at hl 1 rfl) ?_
        refine lv_l2i hx hb dX6_cut_43 rfl ?_
        refine lv_topi (fun xz13 exz13 => ?_)
        refine lv_i2l hx hb dX6_cut_44 rfl ?_
        rw [hQ]
        exact W.lret (v := xz13.toInt64) hx hb hr (fun t ht hW => ⟨xz13.toInt64, rfl, trivial, ht⟩) (fun _ h => absurd h List.not_mem_nil) dX6_cut_45
      · skip
        have zz14 : ¬ (vL 1).toInt = (2 : Int) := fun h9 => cz11 (zi_eq.mpr h9)
        refine lv_tableOut (tgt := 46) hx hb dX6_cut_4 (by omega) (by decide) ?_
        refine lv_lload_n hx hb dX6_cut_46 rfl (lv_at hl 1 rfl) ?_
        rw [hQ]
        exact W.lret (v := p1) hx hb hr (fun t ht hW => ⟨p1, rfl, trivial, ht⟩) (fun _ h => absurd h List.not_mem_nil) dX6_cut_47
def wk_c_X6_spans : List Cond := .code yX6_spans cX6_spans 3 (some .boolean) :: ([.fieldLink RX6 23 "SagMemory$Slot" "length" "I"] ++ (wsX60 ++ []))
theorem wkg_c_X6_spans : wk_c_X6_spans.all goodWord = true := by decide +kernel
set_option maxHeartbeats 4000000 in
set_option maxRecDepth 100000 in
theorem c_X6_spans (l : Launch) (dC : Nat → ClassId) (dI : Nat → Nat → Nat) (k : Nat → ClassId) (qL : Nat → Nat) (vL : Nat → Int32) (sL : Nat → Int32) (lL : Nat → Nat → Int64) (p1 : Int32) (p2 : Int32) (hsL : Rg 0 60 sL) : Met l yX6_spans wk_c_X6_spans ({ frames := 0, cells := 0, slots := 0, locals := 0 }) (va_Pc [.ref (qL 0), .int p1, .int p2] (fun U => va_P (dC, dI) vwCl (List.flatten [(wSlot qL k vL sL lL)]) U.heap ∧ va_K (dC, dI) vwCl (tK k) U)) (vp_Si (fun r : Int32 => (r.toInt = 0 ∨ (0 ≤ p1.toInt ∧ 0 ≤ p2.toInt ∧ p1.toInt + p2.toInt ≤ (sL 0).toInt)) ∧ (r.toInt = 0 ∨ r.toInt = 1))) 0 0 (fun _ => False) := by
  refine Met.ofW (cc := cX6_spans) (maxL := 3) (ret := (some .boolean)) (by decide) rfl ?_
  intro p e s m args below meth c s₁ B hml hv
  obtain ⟨rfl, hP, hK⟩ := hv
  have hx := B.exec
  have hb := B.bytes
  have hr := B.returns
  have hts := atoms_spec (ws := wk_c_X6_spans) B.pre
  have hown : s.vm.findClass RX6 = some m.cls := findClass_of_methodNamed B.named
  have hlocks := B.notSynchronized
  have hP : va_P (dC, dI) vwCl (List.flatten [(wSlot qL k vL sL lL)]) s.heap := hP
  have hl := lv_entry ([.ref (qL 0), .int p1, .int p2]) (n := 3) (Nat.le_of_ble_eq_true rfl)
  rw [lg_entry_eq]
  generalize (lg_sl ([.ref (qL 0), .int p1, .int p2]) ++ List.replicate (3 - (lg_sl ([.ref (qL 0), .int p1, .int p2])).length) Slot.unset).toArray = ls at hl ⊢
  have hl : lv_has ls 3 [(0, .ref (qL 0)), (1, .int p1), (2, .int p2)] := hl
  refine w_gen (fun Q hQ => ?_)
  refine lv_iload_n hx hb dX6_spans_0 rfl (lv_at hl 1 rfl) ?_
  refine lv_if_lt (tgt := 26) hx hb dX6_spans_1 (by decide) (fun cz1 => ?_) (fun cz1 => ?_)
  · skip
    have bz2 := fb_rng p1
    have zz3 : p1.toInt < (0 : Int) := zi_lt.mp cz1
    refine lv_iconst (v := 0) hx hb dX6_spans_26 (by decide) ?_
    rw [hQ]
    exact W.zret (v := (0 : Int32)) hx hb hr rfl (fun t ht hW => ⟨(0 : Int32), rfl, ⟨(by show (0 : Int) = 0 ∨ (0 ≤ p1.toInt ∧ 0 ≤ p2.toInt ∧ p1.toInt + p2.toInt ≤ (sL 0).toInt); omega), (by show (0 : Int) = 0 ∨ (0 : Int) = 1; omega)⟩, ht⟩) (fun _ h => absurd h List.not_mem_nil) dX6_spans_27
  · skip
    have bz4 := fb_rng p1
    have zz5 : ¬ p1.toInt < (0 : Int) := fun h9 => cz1 (zi_lt.mpr h9)
    refine lv_iload_n hx hb dX6_spans_4 rfl (lv_at hl 2 rfl) ?_
    refine lv_if_lt (tgt := 26) hx hb dX6_spans_5 (by decide) (fun cz6 => ?_) (fun cz6 => ?_)
    · skip
      have bz7 := fb_rng p2
      have zz8 : p2.toInt < (0 : Int) := zi_lt.mp cz6
      refine lv_iconst (v := 0) hx hb dX6_spans_26 (by decide) ?_
      rw [hQ]
      exact W.zret (v := (0 : Int32)) hx hb hr rfl (fun t ht hW => ⟨(0 : Int32), rfl, ⟨(by show (0 : Int) = 0 ∨ (0 ≤ p1.toInt ∧ 0 ≤ p2.toInt ∧ p1.toInt + p2.toInt ≤ (sL 0).toInt); omega), (by show (0 : Int) = 0 ∨ (0 : Int) = 1; omega)⟩, ht⟩) (fun _ h => absurd h List.not_mem_nil) dX6_spans_27
    · skip
      have bz9 := fb_rng p2
      have zz10 : ¬ p2.toInt < (0 : Int) := fun h9 => cz6 (zi_lt.mpr h9)
      refine lv_iload_n hx hb dX6_spans_8 rfl (lv_at hl 1 rfl) ?_
      refine lv_i2l hx hb dX6_spans_9 rfl ?_
      refine lv_iload_n hx hb dX6_spans_10 rfl (lv_at hl 2 rfl) ?_
      refine lv_i2l hx hb dX6_spans_11 rfl ?_
      refine lv_ladd hx hb dX6_spans_12 ?_
      have bz11 := fb_rng p1
      have bz12 := fb_rng p2
      refine lv_topl (fun xz13 exz13 => ?_)
      have fxz13 : xz13.toInt = p1.toInt + p2.toInt := by rw [exz13]; exact (by have h8 := fb_addL (x := p1.toInt64) (y := p2.toInt64) (by simp only [Int32.toInt_toInt64]; show -9223372036854775808 ≤ p1.toInt + p2.toInt; omega) (by simp only [Int32.toInt_toInt64]; show p1.toInt + p2.toInt < 9223372036854775808; omega); simp only [Int32.toInt_toInt64] at h8; exact h8)
      refine lv_aload_n hx hb dX6_spans_13 rfl (lv_at hl 0 rfl) ?_
      refine va_get (D := (dC, dI)) (ci := 6) (v := .int (sL 0)) (C := RX6) (T := TX6) (N := 4) hx hb hts (fun w h => List.mem_cons_of_mem _ (List.mem_append_right _ (List.mem_append_left _ h))) hown hK hP 0 rfl rfl 3 (by decide) (hts (.fieldLink RX6 23 "SagMemory$Slot" "length" "I") (wl_mem 0 rfl)) (fun _ h9 => h9) rfl dX6_spans_14 ?_
      have bz14 := hsL 0
      refine lv_i2l hx hb dX6_spans_17 rfl ?_
      refine W.lcmp hx hb dX6_spans_18 ?_
      refine lv_if_gt (tgt := 26) hx hb dX6_spans_19 (by decide) (fun cz15 => ?_) (fun cz15 => ?_)
      · skip
        rw [lg_cmp_gt] at cz15
        have zz16 : (sL 0).toInt < xz13.toInt := by have h9 := zi_ltL.mp cz15; simp only [Int32.toInt_toInt64] at h9; exact h9
        refine lv_iconst (v := 0) hx hb dX6_spans_26 (by decide) ?_
        rw [hQ]
        exact W.zret (v := (0 : Int32)) hx hb hr rfl (fun t ht hW => ⟨(0 : Int32), rfl, ⟨(by show (0 : Int) = 0 ∨ (0 ≤ p1.toInt ∧ 0 ≤ p2.toInt ∧ p1.toInt + p2.toInt ≤ (sL 0).toInt); omega), (by show (0 : Int) = 0 ∨ (0 : Int) = 1; omega)⟩, ht⟩) (fun _ h => absurd h List.not_mem_nil) dX6_spans_27
      · skip
        rw [lg_cmp_gt] at cz15
        have zz17 : ¬ (sL 0).toInt < xz13.toInt := by intro h9; apply cz15; rw [zi_ltL]; simp only [Int32.toInt_toInt64]; exact h9
        refine lv_iconst (v := 1) hx hb dX6_spans_22 (by decide) ?_
        refine lv_goto (tgt := 27) hx hb dX6_spans_23 (by decide) ?_
        rw [hQ]
        exact W.zret (v := (1 : Int32)) hx hb hr rfl (fun t ht hW => ⟨(1 : Int32), rfl, ⟨(by show (1 : Int) = 0 ∨ (0 ≤ p1.toInt ∧ 0 ≤ p2.toInt ∧ p1.toInt + p2.toInt ≤ (sL 0).toInt); omega), (by show (1 : Int) = 0 ∨ (1 : Int) = 1; omega)⟩, ht⟩) (fun _ h => absurd h List.not_mem_nil) dX6_spans_27
def wk_c_X6_isWithin : List Cond := .code yX6_isWithin cX6_isWithin 3 (some .boolean) :: ([] ++ ([]))
theorem wkg_c_X6_isWithin : wk_c_X6_isWithin.all goodWord = true := by decide +kernel
set_option maxHeartbeats 4000000 in
set_option maxRecDepth 100000 in
theorem c_X6_isWithin (l : Launch) (dC : Nat → ClassId) (dI : Nat → Nat → Nat) (k : Nat → ClassId) (p1 : Int64) (p2 : Int32) : Met l yX6_isWithin wk_c_X6_isWithin ({ frames := 0, cells := 0, slots := 0, locals := 0 }) (va_Pc [.long p1, .int p2] (fun U => va_P (dC, dI) vwCl (List.flatten ([] : List va_W)) U.heap ∧ va_K (dC, dI) vwCl (tK k) U)) (vp_Si (fun r : Int32 => (r = 0 ∧ p1 < (0 : Int64)) ∨ (r = 0 ∧ ¬ p1 < (0 : Int64) ∧ p2.toInt64 < p1) ∨ (r = 1 ∧ ¬ p1 < (0 : Int64) ∧ ¬ p2.toInt64 < p1))) 0 0 (fun _ => False) := by
  refine Met.ofW (cc := cX6_isWithin) (maxL := 3) (ret := (some .boolean)) (by decide) rfl ?_
  intro p e s m args below meth c s₁ B hml hv
  obtain ⟨rfl, hP, hK⟩ := hv
  have hx := B.exec
  have hb := B.bytes
  have hr := B.returns
  have hts := atoms_spec (ws := wk_c_X6_isWithin) B.pre
  have hown : s.vm.findClass RX6 = some m.cls := findClass_of_methodNamed B.named
  have hlocks := B.notSynchronized
  have hP : va_P (dC, dI) vwCl (List.flatten ([] : List va_W)) s.heap := hP
  have hl := lv_entry ([.long p1, .int p2]) (n := 3) (Nat.le_of_ble_eq_true rfl)
  rw [lg_entry_eq]
  generalize (lg_sl ([.long p1, .int p2]) ++ List.replicate (3 - (lg_sl ([.long p1, .int p2])).length) Slot.unset).toArray = ls at hl ⊢
  have hl : lv_has ls 3 [(0, .long p1), (2, .int p2)] := hl
  refine w_gen (fun Q hQ => ?_)
  refine lv_lload_n hx hb dX6_isWithin_0 rfl (lv_at hl 0 rfl) ?_
  refine lv_lconst (v := 0) hx hb dX6_isWithin_1 (by decide) ?_
  refine W.lcmp hx hb dX6_isWithin_2 ?_
  refine lv_if_lt (tgt := 17) hx hb dX6_isWithin_3 (by decide) (fun cz1 => ?_) (fun cz1 => ?_)
  · skip
    rw [lg_cmp_lt] at cz1
    have zz2 : p1.toInt < (0 : Int) := zi_ltL.mp cz1
    refine lv_iconst (v := 0) hx hb dX6_isWithin_17 (by decide) ?_
    rw [hQ]
    exact W.zret (v := (0 : Int32)) hx hb hr rfl (fun t ht hW => ⟨(0 : Int32), rfl, Or.inl ⟨rfl, cz1⟩, ht⟩) (fun _ h => absurd h List.not_mem_nil) dX6_isWithin_18
  · skip
    rw [lg_cmp_lt] at cz1
    have zz3 : ¬ p1.toInt < (0 : Int) := fun h9 => cz1 (zi_ltL.mpr h9)
    refine lv_lload_n hx hb dX6_isWithin_6 rfl (lv_at hl 0 rfl) ?_
    refine lv_iload_n hx hb dX6_isWithin_7 rfl (lv_at hl 1 rfl) ?_
    refine lv_i2l hx hb dX6_isWithin_8 rfl ?_
    refine W.lcmp hx hb dX6_isWithin_9 ?_
    refine lv_if_gt (tgt := 17) hx hb dX6_isWithin_10 (by decide) (fun cz4 => ?_) (fun cz4 => ?_)
    · skip
      rw [lg_cmp_gt] at cz4
      have zz5 : p2.toInt < p1.toInt := by have h9 := zi_ltL.mp cz4; simp only [Int32.toInt_toInt64] at h9; exact h9
      refine lv_iconst (v := 0) hx hb dX6_isWithin_17 (by decide) ?_
      rw [hQ]
      exact W.zret (v := (0 : Int32)) hx hb hr rfl (fun t ht hW => ⟨(0 : Int32), rfl, Or.inr (Or.inl ⟨rfl, cz1, cz4⟩), ht⟩) (fun _ h => absurd h List.not_mem_nil) dX6_isWithin_18
    · skip
      rw [lg_cmp_gt] at cz4
      have zz6 : ¬ p2.toInt < p1.toInt := by intro h9; apply cz4; rw [zi_ltL]; simp only [Int32.toInt_toInt64]; exact h9
      refine lv_iconst (v := 1) hx hb dX6_isWithin_13 (by decide) ?_
      refine lv_goto (tgt := 18) hx hb dX6_isWithin_14 (by decide) ?_
      rw [hQ]
      exact W.zret (v := (1 : Int32)) hx hb hr rfl (fun t ht hW => ⟨(1 : Int32), rfl, Or.inr (Or.inr (⟨rfl, cz1, cz4⟩)), ht⟩) (fun _ h => absurd h List.not_mem_nil) dX6_isWithin_18
def wk_c_X6_isLeftIn : List Cond := .code yX6_isLeftIn cX6_isLeftIn 3 (some .boolean) :: ([.fieldLink RX6 26 "SagMemory$Memory" "size" "I", .fieldLink RX6 23 "SagMemory$Slot" "length" "I", .fieldLink RX6 9 "SagMemory$Slot" "numbers" "[J", .fieldLink RX6 31 "SagMemory$Memory" "loads" "[I"] ++ (wsX20 ++ (wsX60 ++ [])))
theorem wkg_c_X6_isLeftIn : wk_c_X6_isLeftIn.all goodWord = true := by decide +kernel
set_option maxHeartbeats 4000000 in
set_option maxRecDepth 100000 in
theorem c_X6_isLeftIn (l : Launch) (dC : Nat → ClassId) (dI : Nat → Nat → Nat) (k : Nat → ClassId) (qL : Nat → Nat) (vL : Nat → Int32) (sL : Nat → Int32) (lL : Nat → Nat → Int64) (qM : Nat → Nat) (nM : Nat → Int32) (aM : Nat → Nat → Int32) (hsL : Rg 0 60 sL) (hnM : Rg 0 8 nM) : Met l yX6_isLeftIn wk_c_X6_isLeftIn ({ frames := 0, cells := 0, slots := 0, locals := 0 }) (va_Pc [.ref (qL 0), .ref (qM 0)] (fun U => va_P (dC, dI) vwCl (List.flatten [(wSlot qL k vL sL lL), (wMem qM k nM aM)]) U.heap ∧ va_K (dC, dI) vwCl (tK k) U)) (vp_Si (fun r : Int32 => (r.toInt = 0 ∨ r.toInt = 1))) 0 0 (fun _ => False) := by
  refine Met.ofW (cc := cX6_isLeftIn) (maxL := 3) (ret := (some .boolean)) (by decide) rfl ?_
  intro p e s m args below meth c s₁ B hml hv
  obtain ⟨rfl, hP, hK⟩ := hv
  have hx := B.exec
  have hb := B.bytes
  have hr := B.returns
  have hts := atoms_spec (ws := wk_c_X6_isLeftIn) B.pre
  have hown : s.vm.findClass RX6 = some m.cls := findClass_of_methodNamed B.named
  have hlocks := B.notSynchronized
  have hP : va_P (dC, dI) vwCl (List.flatten [(wSlot qL k vL sL lL), (wMem qM k nM aM)]) s.heap := hP
  have hl := lv_entry ([.ref (qL 0), .ref (qM 0)]) (n := 3) (Nat.le_of_ble_eq_true rfl)
  rw [lg_entry_eq]
  generalize (lg_sl ([.ref (qL 0), .ref (qM 0)]) ++ List.replicate (3 - (lg_sl ([.ref (qL 0), .ref (qM 0)])).length) Slot.unset).toArray = ls at hl ⊢
  have hl : lv_has ls 3 [(0, .ref (qL 0)), (1, .ref (qM 0))] := hl
  refine w_gen (fun Q hQ => ?_)
  refine lv_aload_n hx hb dX6_isLeftIn_0 rfl (lv_at hl 1 rfl) ?_
  refine va_get (D := (dC, dI)) (ci := 2) (v := .int (nM 0)) (C := RX2) (T := TX2) (N := 3) hx hb hts (fun w h => List.mem_cons_of_mem _ (List.mem_append_right _ (List.mem_append_left _ h))) hown hK hP 2 rfl rfl 2 (by decide) (hts (.fieldLink RX6 26 "SagMemory$Memory" "size" "I") (wl_mem 0 rfl)) (fun _ h9 => h9) rfl dX6_isLeftIn_1 ?_
  have bz1 := hnM 0
  refine lv_aload_n hx hb dX6_isLeftIn_4 rfl (lv_at hl 0 rfl) ?_
  refine va_get (D := (dC, dI)) (ci := 6) (v := .int (sL 0)) (C := RX6) (T := TX6) (N := 4) hx hb hts (fun w h => List.mem_cons_of_mem _ (List.mem_append_right _ (List.mem_append_right _ (List.mem_append_left _ h)))) hown hK hP 0 rfl rfl 3 (by decide) (hts (.fieldLink RX6 23 "SagMemory$Slot" "length" "I") (wl_mem 1 rfl)) (fun _ h9 => h9) rfl dX6_isLeftIn_5 ?_
  have bz2 := hsL 0
  refine lv_icmp_eq (tgt := 13) hx hb dX6_isLeftIn_8 (by decide) (fun cz3 => ?_) (fun cz3 => ?_)
  · skip
    have zz4 : (nM 0).toInt = (sL 0).toInt := zi_eq.mp cz3
    refine lv_iconst (v := 0) hx hb dX6_isLeftIn_13 (by decide) ?_
    refine lv_istore_n (lv' := [(2, .int 0), (0, .ref (qL 0)), (1, .ref (qM 0))]) hx hb dX6_isLeftIn_14 rfl hl (by decide) rfl (fun ls hl => ?_)
    have lp15_kz18 : ∀ (n9_15 : Nat) (ls : Array Slot) (xz17 : Int32), (2147483647 - xz17.toInt).toNat < n9_15 → 0 ≤ xz17.toInt → lv_has ls 3 [(0, .ref (qL 0)), (1, .ref (qM 0)), (2, .int xz17)] → W p l e (headSpec wk_c_X6_isLeftIn ({ frames := 0, cells := 0, slots := 0, locals := 0 })).room s m ([.ref (qL 0), .ref (qM 0)] : List Value).toArray below meth c s.heap [] 0 0 Q (F0 m 15 ls []) := by
      intro n9_15
      induction n9_15 with
      | zero => intro ls xz17 hm; exact absurd hm (Nat.not_lt_zero _)
      | succ n9_15 ih15 =>
        intro ls xz17 hm15 jz19 hl
        refine lv_iload_n hx hb dX6_isLeftIn_15 rfl (lv_at hl 2 rfl) ?_
        refine lv_aload_n hx hb dX6_isLeftIn_16 rfl (lv_at hl 1 rfl) ?_
        refine va_get (D := (dC, dI)) (ci := 2) (v := .int (nM 0)) (C := RX2) (T := TX2) (N := 3) hx hb hts (fun w h => List.mem_cons_of_mem _ (List.mem_append_right _ (List.mem_append_left _ h))) hown hK hP 2 rfl rfl 2 (by decide) (hts (.fieldLink RX6 26 "SagMemory$Memory" "size" "I") (wl_mem 0 rfl)) (fun _ h9 => h9) rfl dX6_isLeftIn_17 ?_
        refine lv_icmp_ge (tgt := 48) hx hb dX6_isLeftIn_20 (by decide) (fun cz20 => ?_) (fun cz20 => ?_)
        · skip
          have bz21 := fb_rng xz17
          have zz22 : (nM 0).toInt ≤ xz17.toInt := zi_le.mp cz20
          refine lv_iconst (v := 1) hx hb dX6_isLeftIn_48 (by decide) ?_
          rw [hQ]
          exact W.zret (v := (1 : Int32)) hx hb hr rfl (fun t ht hW => ⟨(1 : Int32), rfl, (by show (1 : Int) = 0 ∨ (1 : Int) = 1; omega), ht⟩) (fun _ h => absurd h List.not_mem_nil) dX6_isLeftIn_49
        · skip
          have bz23 := fb_rng xz17
          have zz24 : ¬ (nM 0).toInt ≤ xz17.toInt := fun h9 => cz20 (zi_le.mpr h9)
          refine lv_aload_n hx hb dX6_isLeftIn_23 rfl (lv_at hl 0 rfl) ?_
          refine va_get (D := (dC, dI)) (ci := 6) (v := .ref (qL 1)) (C := RX6) (T := TX6) (N := 4) hx hb hts (fun w h => List.mem_cons_of_mem _ (List.mem_append_right _ (List.mem_append_right _ (List.mem_append_left _ h)))) hown hK hP 0 rfl rfl 0 (by decide) (hts (.fieldLink RX6 9 "SagMemory$Slot" "numbers" "[J") (wl_mem 2 rfl)) (fun _ h9 => h9) rfl dX6_isLeftIn_24 ?_
          refine lv_iload_n hx hb dX6_isLeftIn_27 rfl (lv_at hl 2 rfl) ?_
          refine va_lald hx hb hK hP 1 1 rfl rfl (vp_in_iff.mpr ⟨by omega, by omega⟩) dX6_isLeftIn_28 ?_
          refine lv_topl (fun xz25 exz25 => ?_)
          refine lv_aload_n hx hb dX6_isLeftIn_29 rfl (lv_at hl 1 rfl) ?_
          refine va_get (D := (dC, dI)) (ci := 2) (v := .ref (qM 1)) (C := RX2) (T := TX2) (N := 3) hx hb hts (fun w h => List.mem_cons_of_mem _ (List.mem_append_right _ (List.mem_append_left _ h))) hown hK hP 2 rfl rfl 0 (by decide) (hts (.fieldLink RX6 31 "SagMemory$Memory" "loads" "[I") (wl_mem 3 rfl)) (fun _ h9 => h9) rfl dX6_isLeftIn_30 ?_
          refine lv_iload_n hx hb dX6_isLeftIn_33 rfl (lv_at hl 2 rfl) ?_
          refine va_iald hx hb hK hP 3 0 rfl rfl (vp_in_iff.mpr ⟨by omega, by omega⟩) dX6_isLeftIn_34 ?_
          refine lv_topi (fun xz26 exz26 => ?_)
          refine lv_i2l hx hb dX6_isLeftIn_35 rfl ?_
          refine W.lcmp hx hb dX6_isLeftIn_36 ?_
          refine lv_if_eq (tgt := 42) hx hb dX6_isLeftIn_37 (by decide) (fun cz27 => ?_) (fun cz27 => ?_)
          · skip
            rw [lg_cmp_eq] at cz27
            have zz28 : xz25.toInt = xz26.toInt := by have h9 := zi_eqL.mp cz27; simp only [Int32.toInt_toInt64] at h9; exact h9
            obtain ⟨xz29, exz29⟩ : ∃ y : Int32, y = xz17 + Int32.ofInt (1) := ⟨_, rfl⟩
            have fxz29 : xz29.toInt = xz17.toInt + (1) := by rw [exz29]; exact fb_addI (y := Int32.ofInt (1)) (by show -2147483648 ≤ xz17.toInt + (1); omega) (by show xz17.toInt + (1) < 2147483648; omega)
            refine lv_iinc (v := xz29) (lv' := [(2, .int xz29), (0, .ref (qL 0)), (1, .ref (qM 0))]) hx hb dX6_isLeftIn_42 hl (k := 2) rfl exz29.symm (by decide) rfl (fun ls hl => ?_)
            refine lv_goto (tgt := 15) hx hb dX6_isLeftIn_45 (by decide) ?_
            exact ih15 ls xz29 (by show (2147483647 - xz29.toInt).toNat < n9_15; omega) (by show 0 ≤ xz29.toInt; omega) (lv_sub hl [1, 2, 0] rfl)
          · skip
            rw [lg_cmp_eq] at cz27
            have zz30 : ¬ xz25.toInt = xz26.toInt := by intro h9; apply cz27; rw [zi_eqL]; simp only [Int32.toInt_toInt64]; exact h9
            refine lv_iconst (v := 0) hx hb dX6_isLeftIn_40 (by decide) ?_
            rw [hQ]
            exact W.zret (v := (0 : Int32)) hx hb hr rfl (fun t ht hW => ⟨(0 : Int32), rfl, (by show (0 : Int) = 0 ∨ (0 : Int) = 1; omega), ht⟩) (fun _ h => absurd h List.not_mem_nil) dX6_isLeftIn_41
    exact lp15_kz18 _ ls (0 : Int32) (Nat.lt_succ_self _) (by show 0 ≤ (0 : Int); omega) (lv_sub hl [1, 2, 0] rfl)
  · skip
    have zz31 : ¬ (nM 0).toInt = (sL 0).toInt := fun h9 => cz3 (zi_eq.mpr h9)
    refine lv_iconst (v := 0) hx hb dX6_isLeftIn_11 (by decide) ?_
    rw [hQ]
    exact W.zret (v := (0 : Int32)) hx hb hr rfl (fun t ht hW => ⟨(0 : Int32), rfl, (by show (0 : Int) = 0 ∨ (0 : Int) = 1; omega), ht⟩) (fun _ h => absurd h List.not_mem_nil) dX6_isLeftIn_12
def wk_c_X6_isBookOf : List Cond := .code yX6_isBookOf cX6_isBookOf 3 (some .boolean) :: ([.fieldLink RX6 23 "SagMemory$Slot" "length" "I", .fieldLink RX6 9 "SagMemory$Slot" "numbers" "[J", .fieldLink RX6 35 "SagMemory$Valley" "bridges" "I", .methodLink RX6 40 yX6_isWithin, .static yX6_isWithin, .initialized RX6, .fieldLink RX6 44 "SagMemory$Valley" "carts" "I"] ++ (wsX60 ++ (wsX100 ++ (wk_c_X6_isWithin ++ []))))
theorem wkg_c_X6_isBookOf : wk_c_X6_isBookOf.all goodWord = true := by decide +kernel
set_option maxHeartbeats 4000000 in
set_option maxRecDepth 100000 in
theorem c_X6_isBookOf (l : Launch) (dC : Nat → ClassId) (dI : Nat → Nat → Nat) (k : Nat → ClassId) (qL : Nat → Nat) (vL : Nat → Int32) (sL : Nat → Int32) (lL : Nat → Nat → Int64) (qV : Nat → Nat) (vV : Nat → Int32) (bV : Nat → Int32) (cV : Nat → Int32) (wV : Nat → Int32) (aV : Nat → Nat → Int32) (eV : Nat → Nat → Int32) (hsL : Rg 0 60 sL) (hbV : Rg 0 3 bV) (hcV : Rg 0 7 cV) (hwV : Rg 0 5 wV) (heV : RgA 0 99 eV) : Met l yX6_isBookOf wk_c_X6_isBookOf ({ frames := 1, cells := 0, slots := 0, locals := 22 }) (va_Pc [.ref (qL 0), .ref (qV 0)] (fun U => va_P (dC, dI) vwCl (List.flatten [(wSlot qL k vL sL lL), (wValley qV k vV bV cV wV aV eV)]) U.heap ∧ va_K (dC, dI) vwCl (tK k) U)) (vp_Si (fun r : Int32 => (r.toInt = 0 ∨ r.toInt = 1))) 0 0 (fun _ => False) := by
  refine Met.ofW (cc := cX6_isBookOf) (maxL := 3) (ret := (some .boolean)) (by decide) rfl ?_
  intro p e s m args below meth c s₁ B hml hv
  obtain ⟨rfl, hP, hK⟩ := hv
  have hx := B.exec
  have hb := B.bytes
  have hr := B.returns
  have hts := atoms_spec (ws := wk_c_X6_isBookOf) B.pre
  have hown : s.vm.findClass RX6 = some m.cls := findClass_of_methodNamed B.named
  have hlocks := B.notSynchronized
  have hP : va_P (dC, dI) vwCl (List.flatten [(wSlot qL k vL sL lL), (wValley qV k vV bV cV wV aV eV)]) s.heap := hP
  have hl := lv_entry ([.ref (qL 0), .ref (qV 0)]) (n := 3) (Nat.le_of_ble_eq_true rfl)
  rw [lg_entry_eq]
  generalize (lg_sl ([.ref (qL 0), .ref (qV 0)]) ++ List.replicate (3 - (lg_sl ([.ref (qL 0), .ref (qV 0)])).length) Slot.unset).toArray = ls at hl ⊢
  have hl : lv_has ls 3 [(0, .ref (qL 0)), (1, .ref (qV 0))] := hl
  refine w_gen (fun Q hQ => ?_)
  refine lv_aload_n hx hb dX6_isBookOf_0 rfl (lv_at hl 0 rfl) ?_
  refine va_get (D := (dC, dI)) (ci := 6) (v := .int (sL 0)) (C := RX6) (T := TX6) (N := 4) hx hb hts (fun w h => List.mem_cons_of_mem _ (List.mem_append_right _ (List.mem_append_left _ h))) hown hK hP 0 rfl rfl 3 (by decide) (hts (.fieldLink RX6 23 "SagMemory$Slot" "length" "I") (wl_mem 0 rfl)) (fun _ h9 => h9) rfl dX6_isBookOf_1 ?_
  have bz1 := hsL 0
  refine lv_iconst (v := 3) hx hb dX6_isBookOf_4 (by decide) ?_
  refine lv_irem hx hb dX6_isBookOf_5 (by decide) ?_
  refine lv_topi (fun xz2 exz2 => ?_)
  refine lv_if_eq (tgt := 11) hx hb dX6_isBookOf_6 (by decide) (fun cz3 => ?_) (fun cz3 => ?_)
  · skip
    have zz4 : xz2.toInt = (0 : Int) := zi_eq.mp cz3
    refine lv_iconst (v := 0) hx hb dX6_isBookOf_11 (by decide) ?_
    refine lv_istore_n (lv' := [(2, .int 0), (0, .ref (qL 0)), (1, .ref (qV 0))]) hx hb dX6_isBookOf_12 rfl hl (by decide) rfl (fun ls hl => ?_)
    have lp13_kz66 : ∀ (n9_13 : Nat) (ls : Array Slot) (xz65 : Int32), (2147483647 - xz65.toInt).toNat < n9_13 → 0 ≤ xz65.toInt → 0 ≤ xz65.toInt ∧ xz65.toInt ≤ 63 → lv_has ls 3 [(0, .ref (qL 0)), (1, .ref (qV 0)), (2, .int xz65)] → W p l e (headSpec wk_c_X6_isBookOf ({ frames := 1, cells := 0, slots := 0, locals := 22 })).room s m ([.ref (qL 0), .ref (qV 0)] : List Value).toArray below meth c s.heap [] 0 0 Q (F0 m 13 ls []) := by
      intro n9_13
      induction n9_13 with
      | zero => intro ls xz65 hm; exact absurd hm (Nat.not_lt_zero _)
      | succ n9_13 ih13 =>
        intro ls xz65 hm13 jz67 jz68 hl
        refine lv_iload_n hx hb dX6_isBookOf_13 rfl (lv_at hl 2 rfl) ?_
        refine lv_iconst (v := 2) hx hb dX6_isBookOf_14 (by decide) ?_
        refine lv_iadd hx hb dX6_isBookOf_15 ?_
        refine lv_topi (fun xz69 exz69 => ?_)
        have fxz69 : xz69.toInt = xz65.toInt + (2 : Int) := by rw [exz69]; exact fb_addI (x := xz65) (y := (2 : Int32)) (by show -2147483648 ≤ xz65.toInt + (2 : Int); omega) (by show xz65.toInt + (2 : Int) < 2147483648; omega)
        refine lv_aload_n hx hb dX6_isBookOf_16 rfl (lv_at hl 0 rfl) ?_
        refine va_get (D := (dC, dI)) (ci := 6) (v := .int (sL 0)) (C := RX6) (T := TX6) (N := 4) hx hb hts (fun w h => List.mem_cons_of_mem _ (List.mem_append_right _ (List.mem_append_left _ h))) hown hK hP 0 rfl rfl 3 (by decide) (hts (.fieldLink RX6 23 "SagMemory$Slot" "length" "I") (wl_mem 0 rfl)) (fun _ h9 => h9) rfl dX6_isBookOf_17 ?_
        refine lv_icmp_ge (tgt := 86) hx hb dX6_isBookOf_20 (by decide) (fun cz70 => ?_) (fun cz70 => ?_)
        · skip
          have zz71 : (sL 0).toInt ≤ xz69.toInt := zi_le.mp cz70
          refine lv_iconst (v := 1) hx hb dX6_isBookOf_86 (by decide) ?_
          rw [hQ]
          exact W.zret (v := (1 : Int32)) hx hb hr rfl (fun t ht hW => ⟨(1 : Int32), rfl, (by show (1 : Int) = 0 ∨ (1 : Int) = 1; omega), ht⟩) (fun _ h => absurd h List.not_mem_nil) dX6_isBookOf_87
        · skip
          have zz72 : ¬ (sL 0).toInt ≤ xz69.toInt := fun h9 => cz70 (zi_le.mpr h9)
          refine lv_aload_n hx hb dX6_isBookOf_23 rfl (lv_at hl 0 rfl) ?_
          refine va_get (D := (dC, dI)) (ci := 6) (v := .ref (qL 1)) (C := RX6) (T := TX6) (N := 4) hx hb hts (fun w h => List.mem_cons_of_mem _ (List.mem_append_right _ (List.mem_append_left _ h))) hown hK hP 0 rfl rfl 0 (by decide) (hts (.fieldLink RX6 9 "SagMemory$Slot" "numbers" "[J") (wl_mem 1 rfl)) (fun _ h9 => h9) rfl dX6_isBookOf_24 ?_
          refine lv_iload_n hx hb dX6_isBookOf_27 rfl (lv_at hl 2 rfl) ?_
          refine va_lald hx hb hK hP 1 1 rfl rfl (vp_in_iff.mpr ⟨by omega, by omega⟩) dX6_isBookOf_28 ?_
          refine lv_topl (fun xz73 exz73 => ?_)
          refine lv_aload_n hx hb dX6_isBookOf_29 rfl (lv_at hl 1 rfl) ?_
          refine va_get (D := (dC, dI)) (ci := 10) (v := .int (bV 0)) (C := RX10) (T := TX10) (N := 16) hx hb hts (fun w h => List.mem_cons_of_mem _ (List.mem_append_right _ (List.mem_append_right _ (List.mem_append_left _ h)))) hown hK hP 2 rfl rfl 11 (by decide) (hts (.fieldLink RX6 35 "SagMemory$Valley" "bridges" "I") (wl_mem 2 rfl)) (fun _ h9 => h9) rfl dX6_isBookOf_30 ?_
          have bz74 := hbV 0
          refine lv_iconst (v := 1) hx hb dX6_isBookOf_33 (by decide) ?_
          refine lv_isub hx hb dX6_isBookOf_34 ?_
          refine lv_topi (fun xz75 exz75 => ?_)
          have fxz75 : xz75.toInt = (bV 0).toInt - (1 : Int) := by rw [exz75]; exact fb_subI (x := (bV 0)) (y := (1 : Int32)) (by show -2147483648 ≤ (bV 0).toInt - (1 : Int); omega) (by show (bV 0).toInt - (1 : Int) < 2147483648; omega)
          have hPc : va_P (dC, dI) vwCl (List.flatten ([] : List va_W)) s.heap := fun k q h => by simp at h
          refine vp_callSi (va_Run.run (va_runS (As := [.long xz73, .int xz75]) (rest := []) ⟨hx, hb, hml, hown, hts⟩ (c_X6_isWithin l dC dI k xz73 xz75) (va_cwS 2 hts (gk_S (wl_mem 3 rfl) (wl_mem 4 rfl) (wl_mem 5 rfl) (fun w h => List.mem_cons_of_mem _ (List.mem_append_right _ (List.mem_append_right _ (List.mem_append_right _ (List.mem_append_left _ h))))) wkg_c_X6_isWithin) rfl rfl rfl (by decide +kernel) ⟨Nat.le_of_ble_eq_true rfl, Nat.le_of_ble_eq_true rfl⟩) ⟨fun a U g mk q => by obtain ⟨q0, qP, qK⟩ := q; exact ⟨q0, qP, va_K.moved (u := U) (U := U.calling g mk a) (Vm.Alike.refl U.vm) qK⟩, fun U hU hW => ⟨rfl, by rw [hU]; exact hPc, va_K.moved hW.alike hK⟩⟩ rfl rfl hl.1 rfl (lv_room (Nat.le_of_ble_eq_true rfl)) dX6_isBookOf_35 ⟨Nat.le_of_ble_eq_true rfl, Nat.le_of_ble_eq_true rfl⟩)) (fun rz77 gz76 => ?_)
          clear hPc
          rcases gz76 with ⟨er, cz78⟩ | ⟨er, cz79, cz80⟩ | ⟨er, cz81, cz82⟩
          · obtain rfl := er.symm
            have zz83 : xz73.toInt < (0 : Int) := zi_ltL.mp cz78
            refine lv_if_eq (tgt := 78) hx hb dX6_isBookOf_38 (by decide) (fun cz84 => ?_) (fun cz84 => ?_)
            · skip
              refine lv_iconst (v := 0) hx hb dX6_isBookOf_78 (by decide) ?_
              rw [hQ]
              exact W.zret (v := (0 : Int32)) hx hb hr rfl (fun t ht hW => ⟨(0 : Int32), rfl, (by show (0 : Int) = 0 ∨ (0 : Int) = 1; omega), ht⟩) (fun _ h => absurd h List.not_mem_nil) dX6_isBookOf_79
            · skip
              exact absurd cz84 (by decide)
          · obtain rfl := er.symm
            have zz85 : ¬ xz73.toInt < (0 : Int) := fun h9 => cz79 (zi_ltL.mpr h9)
            have zz86 : xz75.toInt < xz73.toInt := by have h9 := zi_ltL.mp cz80; simp only [Int32.toInt_toInt64] at h9; exact h9
            refine lv_if_eq (tgt := 78) hx hb dX6_isBookOf_38 (by decide) (fun cz87 => ?_) (fun cz87 => ?_)
            · skip
              refine lv_iconst (v := 0) hx hb dX6_isBookOf_78 (by decide) ?_
              rw [hQ]
              exact W.zret (v := (0 : Int32)) hx hb hr rfl (fun t ht hW => ⟨(0 : Int32), rfl, (by show (0 : Int) = 0 ∨ (0 : Int) = 1; omega), ht⟩) (fun _ h => absurd h List.not_mem_nil) dX6_isBookOf_79
            · skip
              exact absurd cz87 (by decide)
          · obtain rfl := er.symm
            have zz88 : ¬ xz73.toInt < (0 : Int) := fun h9 => cz81 (zi_ltL.mpr h9)
            have zz89 : ¬ xz75.toInt < xz73.toInt := by intro h9; apply cz82; rw [zi_ltL]; simp only [Int32.toInt_toInt64]; exact h9
            refine lv_if_eq (tgt := 78) hx hb dX6_isBookOf_38 (by decide) (fun cz90 => ?_) (fun cz90 => ?_)
            · skip
              exact absurd cz90 (by decide)
            · skip
              refine lv_aload_n hx hb dX6_isBookOf_41 rfl (lv_at hl 0 rfl) ?_
              refine va_get (D := (dC, dI)) (ci := 6) (v := .ref (qL 1)) (C := RX6) (T := TX6) (N := 4) hx hb hts (fun w h => List.mem_cons_of_mem _ (List.mem_append_right _ (List.mem_append_left _ h))) hown hK hP 0 rfl rfl 0 (by decide) (hts (.fieldLink RX6 9 "SagMemory$Slot" "numbers" "[J") (wl_mem 1 rfl)) (fun _ h9 => h9) rfl dX6_isBookOf_42 ?_
              refine lv_iload_n hx hb dX6_isBookOf_45 rfl (lv_at hl 2 rfl) ?_
              refine lv_iconst (v := 1) hx hb dX6_isBookOf_46 (by decide) ?_
              refine lv_iadd hx hb dX6_isBookOf_47 ?_
              refine lv_topi (fun xz91 exz91 => ?_)
              have fxz91 : xz91.toInt = xz65.toInt + (1 : Int) := by rw [exz91]; exact fb_addI (x := xz65) (y := (1 : Int32)) (by show -2147483648 ≤ xz65.toInt + (1 : Int); omega) (by show xz65.toInt + (1 : Int) < 2147483648; omega)
              refine va_lald hx hb hK hP 1 1 rfl rfl (vp_in_iff.mpr ⟨by omega, by omega⟩) dX6_isBookOf_48 ?_
              refine lv_topl (fun xz92 exz92 => ?_)
              refine lv_aload_n hx hb dX6_isBookOf_49 rfl (lv_at hl 1 rfl) ?_
              refine va_get (D := (dC, dI)) (ci := 10) (v := .int (cV 0)) (C := RX10) (T := TX10) (N := 16) hx hb hts (fun w h => List.mem_cons_of_mem _ (List.mem_append_right _ (List.mem_append_right _ (List.mem_append_left _ h)))) hown hK hP 2 rfl rfl 12 (by decide) (hts (.fieldLink RX6 44 "SagMemory$Valley" "carts" "I") (wl_mem 6 rfl)) (fun _ h9 => h9) rfl dX6_isBookOf_50 ?_
              have bz93 := hcV 0
              refine lv_iconst (v := 1) hx hb dX6_isBookOf_53 (by decide) ?_
              refine lv_isub hx hb dX6_isBookOf_54 ?_
              refine lv_topi (fun xz94 exz94 => ?_)
              have fxz94 : xz94.toInt = (cV 0).toInt - (1 : Int) := by rw [exz94]; exact fb_subI (x := (cV 0)) (y := (1 : Int32)) (by show -2147483648 ≤ (cV 0).toInt - (1 : Int); omega) (by show (cV 0).toInt - (1 : Int) < 2147483648; omega)
              have hPc : va_P (dC, dI) vwCl (List.flatten ([] : List va_W)) s.heap := fun k q h => by simp at h
              refine vp_callSi (va_Run.run (va_runS (As := [.long xz92, .int xz94]) (rest := []) ⟨hx, hb, hml, hown, hts⟩ (c_X6_isWithin l dC dI k xz92 xz94) (va_cwS 2 hts (gk_S (wl_mem 3 rfl) (wl_mem 4 rfl) (wl_mem 5 rfl) (fun w h => List.mem_cons_of_mem _ (List.mem_append_right _ (List.mem_append_right _ (List.mem_append_right _ (List.mem_append_left _ h))))) wkg_c_X6_isWithin) rfl rfl rfl (by decide +kernel) ⟨Nat.le_of_ble_eq_true rfl, Nat.le_of_ble_eq_true rfl⟩) ⟨fun a U g mk q => by obtain ⟨q0, qP, qK⟩ := q; exact ⟨q0, qP, va_K.moved (u := U) (U := U.calling g mk a) (Vm.Alike.refl U.vm) qK⟩, fun U hU hW => ⟨rfl, by rw [hU]; exact hPc, va_K.moved hW.alike hK⟩⟩ rfl rfl hl.1 rfl (lv_room (Nat.le_of_ble_eq_true rfl)) dX6_isBookOf_55 ⟨Nat.le_of_ble_eq_true rfl, Nat.le_of_ble_eq_true rfl⟩)) (fun rz96 gz95 => ?_)
              clear hPc
              rcases gz95 with ⟨er, cz97⟩ | ⟨er, cz98, cz99⟩ | ⟨er, cz100, cz101⟩
              · obtain rfl := er.symm
                have zz102 : xz92.toInt < (0 : Int) := zi_ltL.mp cz97
                refine lv_if_eq (tgt := 78) hx hb dX6_isBookOf_58 (by decide) (fun cz103 => ?_) (fun cz103 => ?_)
                · skip
                  refine lv_iconst (v := 0) hx hb dX6_isBookOf_78 (by decide) ?_
                  rw [hQ]
                  exact W.zret (v := (0 : Int32)) hx hb hr rfl (fun t ht hW => ⟨(0 : Int32), rfl, (by show (0 : Int) = 0 ∨ (0 : Int) = 1; omega), ht⟩) (fun _ h => absurd h List.not_mem_nil) dX6_isBookOf_79
                · skip
                  exact absurd cz103 (by decide)
              · obtain rfl := er.symm
                have zz104 : ¬ xz92.toInt < (0 : Int) := fun h9 => cz98 (zi_ltL.mpr h9)
                have zz105 : xz94.toInt < xz92.toInt := by have h9 := zi_ltL.mp cz99; simp only [Int32.toInt_toInt64] at h9; exact h9
                refine lv_if_eq (tgt := 78) hx hb dX6_isBookOf_58 (by decide) (fun cz106 => ?_) (fun cz106 => ?_)
                · skip
                  refine lv_iconst (v := 0) hx hb dX6_isBookOf_78 (by decide) ?_
                  rw [hQ]
                  exact W.zret (v := (0 : Int32)) hx hb hr rfl (fun t ht hW => ⟨(0 : Int32), rfl, (by show (0 : Int) = 0 ∨ (0 : Int) = 1; omega), ht⟩) (fun _ h => absurd h List.not_mem_nil) dX6_isBookOf_79
                · skip
                  exact absurd cz106 (by decide)
              · obtain rfl := er.symm
                have zz107 : ¬ xz92.toInt < (0 : Int) := fun h9 => cz100 (zi_ltL.mpr h9)
                have zz108 : ¬ xz94.toInt < xz92.toInt := by intro h9; apply cz101; rw [zi_ltL]; simp only [Int32.toInt_toInt64]; exact h9
                refine lv_if_eq (tgt := 78) hx hb dX6_isBookOf_58 (by decide) (fun cz109 => ?_) (fun cz109 => ?_)
                · skip
                  exact absurd cz109 (by decide)
                · skip
                  refine lv_aload_n hx hb dX6_isBookOf_61 rfl (lv_at hl 0 rfl) ?_
                  refine va_get (D := (dC, dI)) (ci := 6) (v := .ref (qL 1)) (C := RX6) (T := TX6) (N := 4) hx hb hts (fun w h => List.mem_cons_of_mem _ (List.mem_append_right _ (List.mem_append_left _ h))) hown hK hP 0 rfl rfl 0 (by decide) (hts (.fieldLink RX6 9 "SagMemory$Slot" "numbers" "[J") (wl_mem 1 rfl)) (fun _ h9 => h9) rfl dX6_isBookOf_62 ?_
                  refine lv_iload_n hx hb dX6_isBookOf_65 rfl (lv_at hl 2 rfl) ?_
                  refine lv_iconst (v := 2) hx hb dX6_isBookOf_66 (by decide) ?_
                  refine lv_iadd hx hb dX6_isBookOf_67 ?_
                  refine lv_topi (fun xz110 exz110 => ?_)
                  have fxz110 : xz110.toInt = xz65.toInt + (2 : Int) := by rw [exz110]; exact fb_addI (x := xz65) (y := (2 : Int32)) (by show -2147483648 ≤ xz65.toInt + (2 : Int); omega) (by show xz65.toInt + (2 : Int) < 2147483648; omega)
                  refine va_lald hx hb hK hP 1 1 rfl rfl (vp_in_iff.mpr ⟨by omega, by omega⟩) dX6_isBookOf_68 ?_
                  refine lv_topl (fun xz111 exz111 => ?_)
                  refine lv_sipush (v := 999) hx hb dX6_isBookOf_69 (by decide) ?_
                  have hPc : va_P (dC, dI) vwCl (List.flatten ([] : List va_W)) s.heap := fun k q h => by simp at h
                  refine vp_callSi (va_Run.run (va_runS (As := [.long xz111, .int 999]) (rest := []) ⟨hx, hb, hml, hown, hts⟩ (c_X6_isWithin l dC dI k xz111 (999 : Int32)) (va_cwS 2 hts (gk_S (wl_mem 3 rfl) (wl_mem 4 rfl) (wl_mem 5 rfl) (fun w h => List.mem_cons_of_mem _ (List.mem_append_right _ (List.mem_append_right _ (List.mem_append_right _ (List.mem_append_left _ h))))) wkg_c_X6_isWithin) rfl rfl rfl (by decide +kernel) ⟨Nat.le_of_ble_eq_true rfl, Nat.le_of_ble_eq_true rfl⟩) ⟨fun a U g mk q => by obtain ⟨q0, qP, qK⟩ := q; exact ⟨q0, qP, va_K.moved (u := U) (U := U.calling g mk a) (Vm.Alike.refl U.vm) qK⟩, fun U hU hW => ⟨rfl, by rw [hU]; exact hPc, va_K.moved hW.alike hK⟩⟩ rfl rfl hl.1 rfl (lv_room (Nat.le_of_ble_eq_true rfl)) dX6_isBookOf_72 ⟨Nat.le_of_ble_eq_true rfl, Nat.le_of_ble_eq_true rfl⟩)) (fun rz113 gz112 => ?_)
                  clear hPc
                  rcases gz112 with ⟨er, cz114⟩ | ⟨er, cz115, cz116⟩ | ⟨er, cz117, cz118⟩
                  · obtain rfl := er.symm
                    have zz119 : xz111.toInt < (0 : Int) := zi_ltL.mp cz114
                    refine lv_if_ne (tgt := 80) hx hb dX6_isBookOf_75 (by decide) (fun cz120 => ?_) (fun cz120 => ?_)
                    · skip
                      exact absurd cz120 (by decide)
                    · skip
                      refine lv_iconst (v := 0) hx hb dX6_isBookOf_78 (by decide) ?_
                      rw [hQ]
                      exact W.zret (v := (0 : Int32)) hx hb hr rfl (fun t ht hW => ⟨(0 : Int32), rfl, (by show (0 : Int) = 0 ∨ (0 : Int) = 1; omega), ht⟩) (fun _ h => absurd h List.not_mem_nil) dX6_isBookOf_79
                  · obtain rfl := er.symm
                    have zz121 : ¬ xz111.toInt < (0 : Int) := fun h9 => cz115 (zi_ltL.mpr h9)
                    have zz122 : (999 : Int) < xz111.toInt := zi_ltL.mp cz116
                    refine lv_if_ne (tgt := 80) hx hb dX6_isBookOf_75 (by decide) (fun cz123 => ?_) (fun cz123 => ?_)
                    · skip
                      exact absurd cz123 (by decide)
                    · skip
                      refine lv_iconst (v := 0) hx hb dX6_isBookOf_78 (by decide) ?_
                      rw [hQ]
                      exact W.zret (v := (0 : Int32)) hx hb hr rfl (fun t ht hW => ⟨(0 : Int32), rfl, (by show (0 : Int) = 0 ∨ (0 : Int) = 1; omega), ht⟩) (fun _ h => absurd h List.not_mem_nil) dX6_isBookOf_79
                  · obtain rfl := er.symm
                    have zz124 : ¬ xz111.toInt < (0 : Int) := fun h9 => cz117 (zi_ltL.mpr h9)
                    have zz125 : ¬ (999 : Int) < xz111.toInt := fun h9 => cz118 (zi_ltL.mpr h9)
                    refine lv_if_ne (tgt := 80) hx hb dX6_isBookOf_75 (by decide) (fun cz126 => ?_) (fun cz126 => ?_)
                    · skip
                      obtain ⟨xz127, exz127⟩ : ∃ y : Int32, y = xz65 + Int32.ofInt (3) := ⟨_, rfl⟩
                      have fxz127 : xz127.toInt = xz65.toInt + (3) := by rw [exz127]; exact fb_addI (y := Int32.ofInt (3)) (by show -2147483648 ≤ xz65.toInt + (3); omega) (by show xz65.toInt + (3) < 2147483648; omega)
                      refine lv_iinc (v := xz127) (lv' := [(2, .int xz127), (0, .ref (qL 0)), (1, .ref (qV 0))]) hx hb dX6_isBookOf_80 hl (k := 2) rfl exz127.symm (by decide) rfl (fun ls hl => ?_)
                      refine lv_goto (tgt := 13) hx hb dX6_isBookOf_83 (by decide) ?_
                      exact ih13 ls xz127 (by show (2147483647 - xz127.toInt).toNat < n9_13; omega) (by show 0 ≤ xz127.toInt; omega) (by show 0 ≤ xz127.toInt ∧ xz127.toInt ≤ 63; omega) (lv_sub hl [1, 2, 0] rfl)
                    · skip
                      exact absurd cz126 (by decide)
    exact lp13_kz66 _ ls (0 : Int32) (Nat.lt_succ_self _) (by show 0 ≤ (0 : Int); omega) (by show 0 ≤ (0 : Int) ∧ (0 : Int) ≤ 63; omega) (lv_sub hl [1, 2, 0] rfl)
  · skip
    have zz128 : ¬ xz2.toInt = (0 : Int) := fun h9 => cz3 (zi_eq.mpr h9)
    refine lv_iconst (v := 0) hx hb dX6_isBookOf_9 (by decide) ?_
    rw [hQ]
    exact W.zret (v := (0 : Int32)) hx hb hr rfl (fun t ht hW => ⟨(0 : Int32), rfl, (by show (0 : Int) = 0 ∨ (0 : Int) = 1; omega), ht⟩) (fun _ h => absurd h List.not_mem_nil) dX6_isBookOf_10
def wk_c_X6_tellsOf : List Cond := .code yX6_tellsOf cX6_tellsOf 5 (some .boolean) :: ([.fieldLink RX6 23 "SagMemory$Slot" "length" "I", .fieldLink RX6 9 "SagMemory$Slot" "numbers" "[J", .fieldLink RX6 47 "SagMemory$Story" "valley" "LSagMemory$Valley;", .methodLink RX6 53 yX10_hasBridge, .instanceMethod yX10_hasBridge, .selects RX10 yX10_hasBridge yX10_hasBridge, .initialized RX10, .methodLink RX6 57 yX8_behind, .instanceMethod yX8_behind, .selects RX8 yX8_behind yX8_behind, .initialized RX8, .fieldLink RX6 61 "SagMemory$State" "memories" "[LSagMemory$Memory;", .methodLink RX6 67 yX2_depth, .instanceMethod yX2_depth, .selects RX2 yX2_depth yX2_depth, .initialized RX2] ++ (wsX60 ++ (wsX80 ++ (wk_c_X10_hasBridge ++ (wk_c_X8_behind ++ (wsX70 ++ (wk_c_X2_depth ++ [])))))))
theorem wkg_c_X6_tellsOf : wk_c_X6_tellsOf.all goodWord = true := by decide +kernel
set_option maxHeartbeats 4000000 in
set_option maxRecDepth 100000 in
theorem c_X6_tellsOf (l : Launch) (dC : Nat → ClassId) (dI : Nat → Nat → Nat) (k : Nat → ClassId) (qL : Nat → Nat) (vL : Nat → Int32) (sL : Nat → Int32) (lL : Nat → Nat → Int64) (qY : Nat → Nat) (sY : Nat → Nat → Nat) (planY : Nat) (vY : Nat → Nat → Int32) (nY : Nat → Nat → Int32) (aY : Nat → Nat → Nat → Int32) (qV : Nat → Nat) (vV : Nat → Int32) (bV : Nat → Int32) (cV : Nat → Int32) (wV : Nat → Int32) (aV : Nat → Nat → Int32) (eV : Nat → Nat → Int32) (hsL : Rg 0 60 sL) (hnY : ∀ t9, Rg 0 8 (nY t9)) (hbV : Rg 0 3 bV) (hcV : Rg 0 7 cV) (hwV : Rg 0 5 wV) (heV : RgA 0 99 eV) : Met l yX6_tellsOf wk_c_X6_tellsOf ({ frames := 1, cells := 0, slots := 0, locals := 22 }) (va_Pc [.ref (qL 0), .ref (qY 0)] (fun U => va_P (dC, dI) vwCl (List.flatten [(wSlot qL k vL sL lL), (wStoO qY k (qV 0) planY (sY 0 0) (sY 1 0) (sY 2 0) (sY 3 0) (sY 4 0) (sY 5 0) (sY 6 0) (sY 7 0)), (wState (sY 0) k (vY 0) (nY 0) (aY 0)), (wState (sY 1) k (vY 1) (nY 1) (aY 1)), (wState (sY 2) k (vY 2) (nY 2) (aY 2)), (wState (sY 3) k (vY 3) (nY 3) (aY 3)), (wState (sY 4) k (vY 4) (nY 4) (aY 4)), (wState (sY 5) k (vY 5) (nY 5) (aY 5)), (wState (sY 6) k (vY 6) (nY 6) (aY 6)), (wState (sY 7) k (vY 7) (nY 7) (aY 7)), (wValley qV k vV bV cV wV aV eV)]) U.heap ∧ va_K (dC, dI) vwCl (tK k) U)) (vp_Si (fun r : Int32 => (r.toInt = 0 ∨ r.toInt = 1))) 0 0 (fun _ => False) := by
  refine Met.ofW (cc := cX6_tellsOf) (maxL := 5) (ret := (some .boolean)) (by decide) rfl ?_
  intro p e s m args below meth c s₁ B hml hv
  obtain ⟨rfl, hP, hK⟩ := hv
  have hx := B.exec
  have hb := B.bytes
  have hr := B.returns
  have hts := atoms_spec (ws := wk_c_X6_tellsOf) B.pre
  have hown : s.vm.findClass RX6 = some m.cls := findClass_of_methodNamed B.named
  have hlocks := B.notSynchronized
  have hP : va_P (dC, dI) vwCl (List.flatten [(wSlot qL k vL sL lL), (wStoO qY k (qV 0) planY (sY 0 0) (sY 1 0) (sY 2 0) (sY 3 0) (sY 4 0) (sY 5 0) (sY 6 0) (sY 7 0)), (wState (sY 0) k (vY 0) (nY 0) (aY 0)), (wState (sY 1) k (vY 1) (nY 1) (aY 1)), (wState (sY 2) k (vY 2) (nY 2) (aY 2)), (wState (sY 3) k (vY 3) (nY 3) (aY 3)), (wState (sY 4) k (vY 4) (nY 4) (aY 4)), (wState (sY 5) k (vY 5) (nY 5) (aY 5)), (wState (sY 6) k (vY 6) (nY 6) (aY 6)), (wState (sY 7) k (vY 7) (nY 7) (aY 7)), (wValley qV k vV bV cV wV aV eV)]) s.heap := hP
  have hl := lv_entry ([.ref (qL 0), .ref (qY 0)]) (n := 5) (Nat.le_of_ble_eq_true rfl)
  rw [lg_entry_eq]
  generalize (lg_sl ([.ref (qL 0), .ref (qY 0)]) ++ List.replicate (5 - (lg_sl ([.ref (qL 0), .ref (qY 0)])).length) Slot.unset).toArray = ls at hl ⊢
  have hl : lv_has ls 5 [(0, .ref (qL 0)), (1, .ref (qY 0))] := hl
  refine w_gen (fun Q hQ => ?_)
  refine lv_iconst (v := 0) hx hb dX6_tellsOf_0 (by decide) ?_
  refine lv_istore_n (lv' := [(2, .int 0), (0, .ref (qL 0)), (1, .ref (qY 0))]) hx hb dX6_tellsOf_1 rfl hl (by decide) rfl (fun ls hl => ?_)
  have lp2_kz344 : ∀ (n9_2 : Nat) (ls : Array Slot) (xz343 : Int32), (2147483647 - xz343.toInt).toNat < n9_2 → 0 ≤ xz343.toInt → 0 ≤ xz343.toInt ∧ xz343.toInt ≤ 63 → lv_has ls 5 [(0, .ref (qL 0)), (1, .ref (qY 0)), (2, .int xz343)] → W p l e (headSpec wk_c_X6_tellsOf ({ frames := 1, cells := 0, slots := 0, locals := 22 })).room s m ([.ref (qL 0), .ref (qY 0)] : List Value).toArray below meth c s.heap [] 0 0 Q (F0 m 2 ls []) := by
    intro n9_2
    induction n9_2 with
    | zero => intro ls xz343 hm; exact absurd hm (Nat.not_lt_zero _)
    | succ n9_2 ih2 =>
      intro ls xz343 hm2 jz345 jz346 hl
      refine lv_iload_n hx hb dX6_tellsOf_2 rfl (lv_at hl 2 rfl) ?_
      refine lv_iconst (v := 2) hx hb dX6_tellsOf_3 (by decide) ?_
      refine lv_iadd hx hb dX6_tellsOf_4 ?_
      refine lv_topi (fun xz347 exz347 => ?_)
      have fxz347 : xz347.toInt = xz343.toInt + (2 : Int) := by rw [exz347]; exact fb_addI (x := xz343) (y := (2 : Int32)) (by show -2147483648 ≤ xz343.toInt + (2 : Int); omega) (by show xz343.toInt + (2 : Int) < 2147483648; omega)
      refine lv_aload_n hx hb dX6_tellsOf_5 rfl (lv_at hl 0 rfl) ?_
      refine va_get (D := (dC, dI)) (ci := 6) (v := .int (sL 0)) (C := RX6) (T := TX6) (N := 4) hx hb hts (fun w h => List.mem_cons_of_mem _ (List.mem_append_right _ (List.mem_append_left _ h))) hown hK hP 0 rfl rfl 3 (by decide) (hts (.fieldLink RX6 23 "SagMemory$Slot" "length" "I") (wl_mem 0 rfl)) (fun _ h9 => h9) rfl dX6_tellsOf_6 ?_
      have bz348 := hsL 0
      refine lv_icmp_ge (tgt := 77) hx hb dX6_tellsOf_9 (by decide) (fun cz349 => ?_) (fun cz349 => ?_)
      · skip
        have zz350 : (sL 0).toInt ≤ xz347.toInt := zi_le.mp cz349
        refine lv_iconst (v := 1) hx hb dX6_tellsOf_77 (by decide) ?_
        rw [hQ]
        exact W.zret (v := (1 : Int32)) hx hb hr rfl (fun t ht hW => ⟨(1 : Int32), rfl, (by show (1 : Int) = 0 ∨ (1 : Int) = 1; omega), ht⟩) (fun _ h => absurd h List.not_mem_nil) dX6_tellsOf_78
      · skip
        have zz351 : ¬ (sL 0).toInt ≤ xz347.toInt := fun h9 => cz349 (zi_le.mpr h9)
        refine lv_aload_n hx hb dX6_tellsOf_12 rfl (lv_at hl 0 rfl) ?_
        refine va_get (D := (dC, dI)) (ci := 6) (v := .ref (qL 1)) (C := RX6) (T := TX6) (N := 4) hx hb hts (fun w h => List.mem_cons_of_mem _ (List.mem_append_right _ (List.mem_append_left _ h))) hown hK hP 0 rfl rfl 0 (by decide) (hts (.fieldLink RX6 9 "SagMemory$Slot" "numbers" "[J") (wl_mem 1 rfl)) (fun _ h9 => h9) rfl dX6_tellsOf_13 ?_
        refine lv_iload_n hx hb dX6_tellsOf_16 rfl (lv_at hl 2 rfl) ?_
        refine va_lald hx hb hK hP 1 1 rfl rfl (vp_in_iff.mpr ⟨by omega, by omega⟩) dX6_tellsOf_17 ?_
        refine lv_topl (fun xz352 exz352 => ?_)
        refine lv_l2i hx hb dX6_tellsOf_18 rfl ?_
        refine lv_topi (fun xz353 exz353 => ?_)
        refine lv_istore_n (lv' := [(3, .int xz353), (0, .ref (qL 0)), (1, .ref (qY 0)), (2, .int xz343)]) hx hb dX6_tellsOf_19 rfl hl (by decide) rfl (fun ls hl => ?_)
        refine lv_aload_n hx hb dX6_tellsOf_20 rfl (lv_at hl 1 rfl) ?_
        refine va_get (D := (dC, dI)) (ci := 6) (v := .ref (qL 1)) (C := RX6) (T := TX6) (N := 4) hx hb hts (fun w h => List.mem_cons_of_mem _ (List.mem_append_right _ (List.mem_append_left _ h))) hown hK hP 0 rfl rfl 0 (by decide) (hts (.fieldLink RX6 9 "SagMemory$Slot" "numbers" "[J") (wl_mem 1 rfl)) (fun _ h9 => h9) rfl dX6_tellsOf_21 ?_
        refine lv_iload_n hx hb dX6_tellsOf_24 rfl (lv_at hl 3 rfl) ?_
        refine lv_iconst (v := 1) hx hb dX6_tellsOf_25 (by decide) ?_
        refine lv_iadd hx hb dX6_tellsOf_26 ?_
        refine lv_topi (fun xz354 exz354 => ?_)
        have fxz354 : xz354.toInt = xz343.toInt + (1 : Int) := by rw [exz354]; exact fb_addI (x := xz343) (y := (1 : Int32)) (by show -2147483648 ≤ xz343.toInt + (1 : Int); omega) (by show xz343.toInt + (1 : Int) < 2147483648; omega)
        refine va_lald hx hb hK hP 1 1 rfl rfl (vp_in_iff.mpr ⟨by omega, by omega⟩) dX6_tellsOf_27 ?_
        refine lv_topl (fun xz355 exz355 => ?_)
        refine lv_l2i hx hb dX6_tellsOf_28 rfl ?_
        refine lv_topi (fun xz356 exz356 => ?_)
        refine lv_istore (lv' := [(4, .int xz356), (3, .int xz353), (0, .ref (qL 0)), (1, .ref (qY 0)), (2, .int xz343)]) hx hb dX6_tellsOf_29 hl (by decide) rfl (fun ls hl => ?_)
        refine lv_aload_n hx hb dX6_tellsOf_31 rfl (lv_at hl 3 rfl) ?_
        refine va_get (D := (dC, dI)) (ci := 8) (v := .ref (qV 0)) (C := RX8) (T := TX8) (N := 4) hx hb hts (fun w h => List.mem_cons_of_mem _ (List.mem_append_right _ (List.mem_append_right _ (List.mem_append_left _ h)))) hown hK hP 2 rfl rfl 0 (by decide) (hts (.fieldLink RX6 47 "SagMemory$Story" "valley" "LSagMemory$Valley;") (wl_mem 2 rfl)) (fun _ h9 => h9) rfl dX6_tellsOf_32 ?_
        refine lv_iload_n hx hb dX6_tellsOf_35 rfl (lv_at hl 1 rfl) ?_
        have hPc := hP.sub (ws' := (List.flatten [(wValley qV k vV bV cV wV aV eV)])) [92, 93, 94, 95, 96, 97, 98, 99] rfl
        refine vp_callSi (va_Run.run (va_runV (As := [.int xz353]) (rest := []) ⟨hx, hb, hml, hown, hts⟩ (c_X10_hasBridge l dC dI k qV vV bV cV wV aV eV xz353 hbV hcV hwV heV) (cwV 1 hts (gk_V (wl_mem 3 rfl) (wl_mem 4 rfl) (wl_mem 5 rfl) (wl_mem 6 rfl) (fun w h => List.mem_cons_of_mem _ (List.mem_append_right _ (List.mem_append_right _ (List.mem_append_right _ (List.mem_append_left _ h))))) wkg_c_X10_hasBridge) rfl rfl rfl (by decide +kernel) ⟨Nat.le_of_ble_eq_true rfl, Nat.le_of_ble_eq_true rfl⟩) ⟨fun a U g mk q => by obtain ⟨q0, qP, qK⟩ := q; exact ⟨q0, qP, va_K.moved (u := U) (U := U.calling g mk a) (Vm.Alike.refl U.vm) qK⟩, va_recv hK hPc (ci := 10) (q0 := 0) rfl rfl, fun U hU hW => ⟨rfl, by rw [hU]; exact hPc, va_K.moved hW.alike hK⟩⟩ rfl rfl hl.1 rfl (lv_room (Nat.le_of_ble_eq_true rfl)) dX6_tellsOf_36 ⟨Nat.le_of_ble_eq_true rfl, Nat.le_of_ble_eq_true rfl⟩)) (fun rz358 gz357 => ?_)
        clear hPc
        rcases gz357 with ⟨er, cz359⟩ | ⟨er, cz360, cz361⟩ | ⟨er, cz362, cz363⟩
        · obtain rfl := er.symm
          have bz364 := fb_rng xz353
          have zz365 : xz353.toInt < (0 : Int) := zi_lt.mp cz359
          refine lv_if_eq (tgt := 69) hx hb dX6_tellsOf_39 (by decide) (fun cz366 => ?_) (fun cz366 => ?_)
          · skip
            refine lv_iconst (v := 0) hx hb dX6_tellsOf_69 (by decide) ?_
            rw [hQ]
            exact W.zret (v := (0 : Int32)) hx hb hr rfl (fun t ht hW => ⟨(0 : Int32), rfl, (by show (0 : Int) = 0 ∨ (0 : Int) = 1; omega), ht⟩) (fun _ h => absurd h List.not_mem_nil) dX6_tellsOf_70
          · skip
            exact absurd cz366 (by decide)
        · obtain rfl := er.symm
          have bz367 := fb_rng xz353
          have zz368 : ¬ xz353.toInt < (0 : Int) := fun h9 => cz360 (zi_lt.mpr h9)
          have bz369 := hbV 0
          have zz370 : (bV 0).toInt ≤ xz353.toInt := zi_le.mp cz361
          refine lv_if_eq (tgt := 69) hx hb dX6_tellsOf_39 (by decide) (fun cz371 => ?_) (fun cz371 => ?_)
          · skip
            refine lv_iconst (v := 0) hx hb dX6_tellsOf_69 (by decide) ?_
            rw [hQ]
            exact W.zret (v := (0 : Int32)) hx hb hr rfl (fun t ht hW => ⟨(0 : Int32), rfl, (by show (0 : Int) = 0 ∨ (0 : Int) = 1; omega), ht⟩) (fun _ h => absurd h List.not_mem_nil) dX6_tellsOf_70
          · skip
            exact absurd cz371 (by decide)
        · obtain rfl := er.symm
          have bz372 := fb_rng xz353
          have zz373 : ¬ xz353.toInt < (0 : Int) := fun h9 => cz362 (zi_lt.mpr h9)
          have bz374 := hbV 0
          have zz375 : ¬ (bV 0).toInt ≤ xz353.toInt := fun h9 => cz363 (zi_le.mpr h9)
          refine lv_if_eq (tgt := 69) hx hb dX6_tellsOf_39 (by decide) (fun cz376 => ?_) (fun cz376 => ?_)
          · skip
            exact absurd cz376 (by decide)
          · skip
            refine lv_aload_n hx hb dX6_tellsOf_42 rfl (lv_at hl 3 rfl) ?_
            refine lv_iload hx hb dX6_tellsOf_43 (lv_at hl 0 rfl) ?_
            have hPc : va_P (dC, dI) vwCl (List.flatten [(wStoO qY k (qV 0) planY (sY 0 0) (sY 1 0) (sY 2 0) (sY 3 0) (sY 4 0) (sY 5 0) (sY 6 0) (sY 7 0)), (wState (sY 0) k (vY 0) (nY 0) (aY 0)), (wState (sY 1) k (vY 1) (nY 1) (aY 1)), (wState (sY 2) k (vY 2) (nY 2) (aY 2)), (wState (sY 3) k (vY 3) (nY 3) (aY 3)), (wState (sY 4) k (vY 4) (nY 4) (aY 4)), (wState (sY 5) k (vY 5) (nY 5) (aY 5)), (wState (sY 6) k (vY 6) (nY 6) (aY 6)), (wState (sY 7) k (vY 7) (nY 7) (aY 7))]) s.heap := wc_subP0 hP [1, 2, 3, 4, 5, 6, 7, 8, 9] rfl
            refine va_csr (va_Run.run (va_runV (As := [.int xz356]) (rest := []) ⟨hx, hb, hml, hown, hts⟩ (c_X8_behind l dC dI k qY sY (qV 0) planY vY nY aY xz356 hnY) (cwV 1 hts (gk_V (wl_mem 7 rfl) (wl_mem 8 rfl) (wl_mem 9 rfl) (wl_mem 10 rfl) (fun w h => List.mem_cons_of_mem _ (List.mem_append_right _ (List.mem_append_right _ (List.mem_append_right _ (List.mem_append_right _ (List.mem_append_left _ h)))))) wkg_c_X8_behind) rfl rfl rfl (by decide +kernel) ⟨Nat.le_of_ble_eq_true rfl, Nat.le_of_ble_eq_true rfl⟩) ⟨fun a U g mk q => by obtain ⟨q0, qP, qK⟩ := q; exact ⟨q0, qP, va_K.moved (u := U) (U := U.calling g mk a) (Vm.Alike.refl U.vm) qK⟩, va_recv hK hPc (ci := 8) (q0 := 0) rfl rfl, fun U hU hW => ⟨rfl, by rw [hU]; exact hPc, va_K.moved hW.alike hK⟩⟩ rfl rfl hl.1 rfl (lv_room (Nat.le_of_ble_eq_true rfl)) dX6_tellsOf_45 ⟨Nat.le_of_ble_eq_true rfl, Nat.le_of_ble_eq_true rfl⟩)) (fun rz378 gz377 => ?_)
            clear hPc
            rcases gz377 with ⟨rfl, cz379⟩ | ⟨rfl, cz380, cz381⟩ | ⟨rfl, cz382, cz383, cz384⟩ | ⟨rfl, cz385, cz386, cz387⟩ | ⟨rfl, cz388, cz389, cz390⟩ | ⟨rfl, cz391, cz392, cz393⟩ | ⟨rfl, cz394, cz395, cz396⟩ | ⟨rfl, cz397, cz398, cz399⟩ | ⟨rfl, cz400, cz401, cz402⟩
            · skip
              have bz403 := fb_rng xz356
              have zz404 : xz356.toInt < (0 : Int) := zi_lt.mp cz379
              refine W.eq (g2 := F0 m 48 ls [.ref (sY 0 0)]) rfl ?_
              refine va_get (D := (dC, dI)) (ci := 7) (v := .ref (sY 0 1)) (C := RX7) (T := TX7) (N := 9) hx hb hts (fun w h => List.mem_cons_of_mem _ (List.mem_append_right _ (List.mem_append_right _ (List.mem_append_right _ (List.mem_append_right _ (List.mem_append_right _ (List.mem_append_left _ h))))))) hown hK hP 4 rfl rfl 0 (by decide) (hts (.fieldLink RX6 61 "SagMemory$State" "memories" "[LSagMemory$Memory;") (wl_mem 11 rfl)) (fun _ h9 => h9) rfl dX6_tellsOf_48 ?_
              refine lv_iload_n hx hb dX6_tellsOf_51 rfl (lv_at hl 1 rfl) ?_
              rcases (show xz353 = 0 ∨ xz353 = 1 ∨ xz353 = 2 by simp only [zi_eq]; show xz353.toInt = 0 ∨ xz353.toInt = 1 ∨ xz353.toInt = 2; omega) with cz405 | cz405 | cz405
              · skip
                have zz406 : xz353.toInt = (0 : Int) := zi_eq.mp cz405
                refine W.eq (g2 := F0 m 52 ls [.int 0, .ref (sY 0 1)]) (by rw [cz405]) ?_
                refine va_aldq hx hb hK hP 5 4 rfl rfl (by unfold vp_in; decide) dX6_tellsOf_52 ?_
                refine W.eq (g2 := F0 m 53 ls [.ref (sY 0 2)]) rfl ?_
                have hPc := hP.sub (ws' := (List.flatten [(wMem (fun i => sY 0 (i + 2)) k (nY 0) (aY 0))])) [6, 7, 8] rfl
                refine vp_callSi (va_Run.run (va_runV (As := []) (rest := []) ⟨hx, hb, hml, hown, hts⟩ (c_X2_depth l dC dI k (fun i => sY 0 (i + 2)) (nY 0) (aY 0) (hnY 0)) (cwV 0 hts (gk_V (wl_mem 12 rfl) (wl_mem 13 rfl) (wl_mem 14 rfl) (wl_mem 15 rfl) (fun w h => List.mem_cons_of_mem _ (List.mem_append_right _ (List.mem_append_right _ (List.mem_append_right _ (List.mem_append_right _ (List.mem_append_right _ (List.mem_append_right _ (List.mem_append_left _ h)))))))) wkg_c_X2_depth) rfl rfl rfl (by decide +kernel) ⟨Nat.le_of_ble_eq_true rfl, Nat.le_of_ble_eq_true rfl⟩) ⟨fun a U g mk q => by obtain ⟨q0, qP, qK⟩ := q; exact ⟨q0, qP, va_K.moved (u := U) (U := U.calling g mk a) (Vm.Alike.refl U.vm) qK⟩, va_recv hK hPc (ci := 2) (q0 := 0) rfl rfl, fun U hU hW => ⟨rfl, by rw [hU]; exact hPc, va_K.moved hW.alike hK⟩⟩ rfl rfl hl.1 rfl (lv_room (Nat.le_of_ble_eq_true rfl)) dX6_tellsOf_53 ⟨Nat.le_of_ble_eq_true rfl, Nat.le_of_ble_eq_true rfl⟩)) (fun rz408 gz407 => ?_)
                clear hPc
                refine lv_i2l hx hb dX6_tellsOf_56 rfl ?_
                refine lv_aload_n hx hb dX6_tellsOf_57 rfl (lv_at hl 2 rfl) ?_
                refine va_get (D := (dC, dI)) (ci := 6) (v := .ref (qL 1)) (C := RX6) (T := TX6) (N := 4) hx hb hts (fun w h => List.mem_cons_of_mem _ (List.mem_append_right _ (List.mem_append_left _ h))) hown hK hP 0 rfl rfl 0 (by decide) (hts (.fieldLink RX6 9 "SagMemory$Slot" "numbers" "[J") (wl_mem 1 rfl)) (fun _ h9 => h9) rfl dX6_tellsOf_58 ?_
                refine lv_iload_n hx hb dX6_tellsOf_61 rfl (lv_at hl 4 rfl) ?_
                refine lv_iconst (v := 2) hx hb dX6_tellsOf_62 (by decide) ?_
                refine lv_iadd hx hb dX6_tellsOf_63 ?_
                refine lv_topi (fun xz409 exz409 => ?_)
                have fxz409 : xz409.toInt = xz343.toInt + (2 : Int) := by rw [exz409]; exact fb_addI (x := xz343) (y := (2 : Int32)) (by show -2147483648 ≤ xz343.toInt + (2 : Int); omega) (by show xz343.toInt + (2 : Int) < 2147483648; omega)
                refine va_lald hx hb hK hP 1 1 rfl rfl (vp_in_iff.mpr ⟨by omega, by omega⟩) dX6_tellsOf_64 ?_
                refine lv_topl (fun xz410 exz410 => ?_)
                refine W.lcmp hx hb dX6_tellsOf_65 ?_
                refine lv_if_eq (tgt := 71) hx hb dX6_tellsOf_66 (by decide) (fun cz411 => ?_) (fun cz411 => ?_)
                · skip
                  rw [lg_cmp_eq] at cz411
                  have zz412 : rz408.toInt = xz410.toInt := by have h9 := zi_eqL.mp cz411; simp only [Int32.toInt_toInt64] at h9; exact h9
                  obtain ⟨xz413, exz413⟩ : ∃ y : Int32, y = xz343 + Int32.ofInt (3) := ⟨_, rfl⟩
                  have fxz413 : xz413.toInt = xz343.toInt + (3) := by rw [exz413]; exact fb_addI (y := Int32.ofInt (3)) (by show -2147483648 ≤ xz343.toInt + (3); omega) (by show xz343.toInt + (3) < 2147483648; omega)
                  refine lv_iinc (v := xz413) (lv' := [(2, .int xz413), (4, .int xz356), (3, .int xz353), (0, .ref (qL 0)), (1, .ref (qY 0))]) hx hb dX6_tellsOf_71 hl (k := 4) rfl exz413.symm (by decide) rfl (fun ls hl => ?_)
                  refine lv_goto (tgt := 2) hx hb dX6_tellsOf_74 (by decide) ?_
                  exact ih2 ls xz413 (by show (2147483647 - xz413.toInt).toNat < n9_2; omega) (by show 0 ≤ xz413.toInt; omega) (by show 0 ≤ xz413.toInt ∧ xz413.toInt ≤ 63; omega) (lv_sub hl [3, 4, 0] rfl)
                · skip
                  rw [lg_cmp_eq] at cz411
                  have zz414 : ¬ rz408.toInt = xz410.toInt := by intro h9; apply cz411; rw [zi_eqL]; simp only [Int32.toInt_toInt64]; exact h9
                  refine lv_iconst (v := 0) hx hb dX6_tellsOf_69 (by decide) ?_
                  rw [hQ]
                  exact W.zret (v := (0 : Int32)) hx hb hr rfl (fun t ht hW => ⟨(0 : Int32), rfl, (by show (0 : Int) = 0 ∨ (0 : Int) = 1; omega), ht⟩) (fun _ h => absurd h List.not_mem_nil) dX6_tellsOf_70
              · skip
                have zz415 : xz353.toInt = (1 : Int) := zi_eq.mp cz405
                refine W.eq (g2 := F0 m 52 ls [.int 1, .ref (sY 0 1)]) (by rw [cz405]) ?_
                refine va_aldq hx hb hK hP 5 4 rfl rfl (by unfold vp_in; decide) dX6_tellsOf_52 ?_
                refine W.eq (g2 := F0 m 53 ls [.ref (sY 0 5)]) rfl ?_
                have hPc := hP.sub (ws' := (List.flatten [(wMem (fun i => sY 0 (i + 5)) k (fun i => (nY 0) (i + 1)) (fun i => (aY 0) (i + 2)))])) [9, 10, 11] rfl
                refine vp_callSi (va_Run.run (va_runV (As := []) (rest := []) ⟨hx, hb, hml, hown, hts⟩ (c_X2_depth l dC dI k (fun i => sY 0 (i + 5)) (fun i => (nY 0) (i + 1)) (fun i => (aY 0) (i + 2)) (fun i => (hnY 0) (i + 1))) (cwV 0 hts (gk_V (wl_mem 12 rfl) (wl_mem 13 rfl) (wl_mem 14 rfl) (wl_mem 15 rfl) (fun w h => List.mem_cons_of_mem _ (List.mem_append_right _ (List.mem_append_right _ (List.mem_append_right _ (List.mem_append_right _ (List.mem_append_right _ (List.mem_append_right _ (List.mem_append_left _ h)))))))) wkg_c_X2_depth) rfl rfl rfl (by decide +kernel) ⟨Nat.le_of_ble_eq_true rfl, Nat.le_of_ble_eq_true rfl⟩) ⟨fun a U g mk q => by obtain ⟨q0, qP, qK⟩ := q; exact ⟨q0, qP, va_K.moved (u := U) (U := U.calling g mk a) (Vm.Alike.refl U.vm) qK⟩, va_recv hK hPc (ci := 2) (q0 := 0) rfl rfl, fun U hU hW => ⟨rfl, by rw [hU]; exact hPc, va_K.moved hW.alike hK⟩⟩ rfl rfl hl.1 rfl (lv_room (Nat.le_of_ble_eq_true rfl)) dX6_tellsOf_53 ⟨Nat.le_of_ble_eq_true rfl, Nat.le_of_ble_eq_true rfl⟩)) (fun rz417 gz416 => ?_)
                clear hPc
                refine lv_i2l hx hb dX6_tellsOf_56 rfl ?_
                refine lv_aload_n hx hb dX6_tellsOf_57 rfl (lv_at hl 2 rfl) ?_
                refine va_get (D := (dC, dI)) (ci := 6) (v := .ref (qL 1)) (C := RX6) (T := TX6) (N := 4) hx hb hts (fun w h => List.mem_cons_of_mem _ (List.mem_append_right _ (List.mem_append_left _ h))) hown hK hP 0 rfl rfl 0 (by decide) (hts (.fieldLink RX6 9 "SagMemory$Slot" "numbers" "[J") (wl_mem 1 rfl)) (fun _ h9 => h9) rfl dX6_tellsOf_58 ?_
                refine lv_iload_n hx hb dX6_tellsOf_61 rfl (lv_at hl 4 rfl) ?_
                refine lv_iconst (v := 2) hx hb dX6_tellsOf_62 (by decide) ?_
                refine lv_iadd hx hb dX6_tellsOf_63 ?_
                refine lv_topi (fun xz418 exz418 => ?_)
                have fxz418 : xz418.toInt = xz343.toInt + (2 : Int) := by rw [exz418]; exact fb_addI (x := xz343) (y := (2 : Int32)) (by show -2147483648 ≤ xz343.toInt + (2 : Int); omega) (by show xz343.toInt + (2 : Int) < 2147483648; omega)
                refine va_lald hx hb hK hP 1 1 rfl rfl (vp_in_iff.mpr ⟨by omega, by omega⟩) dX6_tellsOf_64 ?_
                refine lv_topl (fun xz419 exz419 => ?_)
                refine W.lcmp hx hb dX6_tellsOf_65 ?_
                refine lv_if_eq (tgt := 71) hx hb dX6_tellsOf_66 (by decide) (fun cz420 => ?_) (fun cz420 => ?_)
                · skip
                  rw [lg_cmp_eq] at cz420
                  have zz421 : rz417.toInt = xz419.toInt := by have h9 := zi_eqL.mp cz420; simp only [Int32.toInt_toInt64] at h9; exact h9
                  obtain ⟨xz422, exz422⟩ : ∃ y : Int32, y = xz343 + Int32.ofInt (3) := ⟨_, rfl⟩
                  have fxz422 : xz422.toInt = xz343.toInt + (3) := by rw [exz422]; exact fb_addI (y := Int32.ofInt (3)) (by show -2147483648 ≤ xz343.toInt + (3); omega) (by show xz343.toInt + (3) < 2147483648; omega)
                  refine lv_iinc (v := xz422) (lv' := [(2, .int xz422), (4, .int xz356), (3, .int xz353), (0, .ref (qL 0)), (1, .ref (qY 0))]) hx hb dX6_tellsOf_71 hl (k := 4) rfl exz422.symm (by decide) rfl (fun ls hl => ?_)
                  refine lv_goto (tgt := 2) hx hb dX6_tellsOf_74 (by decide) ?_
                  exact ih2 ls xz422 (by show (2147483647 - xz422.toInt).toNat < n9_2; omega) (by show 0 ≤ xz422.toInt; omega) (by show 0 ≤ xz422.toInt ∧ xz422.toInt ≤ 63; omega) (lv_sub hl [3, 4, 0] rfl)
                · skip
                  rw [lg_cmp_eq] at cz420
                  have zz423 : ¬ rz417.toInt = xz419.toInt := by intro h9; apply cz420; rw [zi_eqL]; simp only [Int32.toInt_toInt64]; exact h9
                  refine lv_iconst (v := 0) hx hb dX6_tellsOf_69 (by decide) ?_
                  rw [hQ]
                  exact W.zret (v := (0 : Int32)) hx hb hr rfl (fun t ht hW => ⟨(0 : Int32), rfl, (by show (0 : Int) = 0 ∨ (0 : Int) = 1; omega), ht⟩) (fun _ h => absurd h List.not_mem_nil) dX6_tellsOf_70
              · skip
                have zz424 : xz353.toInt = (2 : Int) := zi_eq.mp cz405
                refine W.eq (g2 := F0 m 52 ls [.int 2, .ref (sY 0 1)]) (by rw [cz405]) ?_
                refine va_aldq hx hb hK hP 5 4 rfl rfl (by unfold vp_in; decide) dX6_tellsOf_52 ?_
                refine W.eq (g2 := F0 m 53 ls [.ref (sY 0 8)]) rfl ?_
                have hPc := hP.sub (ws' := (List.flatten [(wMem (fun i => sY 0 (i + 8)) k (fun i => (nY 0) (i + 2)) (fun i => (aY 0) (i + 4)))])) [12, 13, 14] rfl
                refine vp_callSi (va_Run.run (va_runV (As := []) (rest := []) ⟨hx, hb, hml, hown, hts⟩ (c_X2_depth l dC dI k (fun i => sY 0 (i + 8)) (fun i => (nY 0) (i + 2)) (fun i => (aY 0) (i + 4)) (fun i => (hnY 0) (i + 2))) (cwV 0 hts (gk_V (wl_mem 12 rfl) (wl_mem 13 rfl) (wl_mem 14 rfl) (wl_mem 15 rfl) (fun w h => List.mem_cons_of_mem _ (List.mem_append_right _ (List.mem_append_right _ (List.mem_append_right _ (List.mem_append_right _ (List.mem_append_right _ (List.mem_append_right _ (List.mem_append_left _ h)))))))) wkg_c_X2_depth) rfl rfl rfl (by decide +kernel) ⟨Nat.le_of_ble_eq_true rfl, Nat.le_of_ble_eq_true rfl⟩) ⟨fun a U g mk q => by obtain ⟨q0, qP, qK⟩ := q; exact ⟨q0, qP, va_K.moved (u := U) (U := U.calling g mk a) (Vm.Alike.refl U.vm) qK⟩, va_recv hK hPc (ci := 2) (q0 := 0) rfl rfl, fun U hU hW => ⟨rfl, by rw [hU]; exact hPc, va_K.moved hW.alike hK⟩⟩ rfl rfl hl.1 rfl (lv_room (Nat.le_of_ble_eq_true rfl)) dX6_tellsOf_53 ⟨Nat.le_of_ble_eq_true rfl, Nat.le_of_ble_eq_true rfl⟩)) (fun rz426 gz425 => ?_)
                clear hPc
                refine lv_i2l hx hb dX6_tellsOf_56 rfl ?_
                refine lv_aload_n hx hb dX6_tellsOf_57 rfl (lv_at hl 2 rfl) ?_
                refine va_get (D := (dC, dI)) (ci := 6) (v := .ref (qL 1)) (C := RX6) (T := TX6) (N := 4) hx hb hts (fun w h => List.mem_cons_of_mem _ (List.mem_append_right _ (List.mem_append_left _ h))) hown hK hP 0 rfl rfl 0 (by decide) (hts (.fieldLink RX6 9 "SagMemory$Slot" "numbers" "[J") (wl_mem 1 rfl)) (fun _ h9 => h9) rfl dX6_tellsOf_58 ?_
                refine lv_iload_n hx hb dX6_tellsOf_61 rfl (lv_at hl 4 rfl) ?_
                refine lv_iconst (v := 2) hx hb dX6_tellsOf_62 (by decide) ?_
                refine lv_iadd hx hb dX6_tellsOf_63 ?_
                refine lv_topi (fun xz427 exz427 => ?_)
                have fxz427 : xz427.toInt = xz343.toInt + (2 : Int) := by rw [exz427]; exact fb_addI (x := xz343) (y := (2 : Int32)) (by show -2147483648 ≤ xz343.toInt + (2 : Int); omega) (by show xz343.toInt + (2 : Int) < 2147483648; omega)
                refine va_lald hx hb hK hP 1 1 rfl rfl (vp_in_iff.mpr ⟨by omega, by omega⟩) dX6_tellsOf_64 ?_
                refine lv_topl (fun xz428 exz428 => ?_)
                refine W.lcmp hx hb dX6_tellsOf_65 ?_
                refine lv_if_eq (tgt := 71) hx hb dX6_tellsOf_66 (by decide) (fun cz429 => ?_) (fun cz429 => ?_)
                · skip
                  rw [lg_cmp_eq] at cz429
                  have zz430 : rz426.toInt = xz428.toInt := by have h9 := zi_eqL.mp cz429; simp only [Int32.toInt_toInt64] at h9; exact h9
                  obtain ⟨xz431, exz431⟩ : ∃ y : Int32, y = xz343 + Int32.ofInt (3) := ⟨_, rfl⟩
                  have fxz431 : xz431.toInt = xz343.toInt + (3) := by rw [exz431]; exact fb_addI (y := Int32.ofInt (3)) (by show -2147483648 ≤ xz343.toInt + (3); omega) (by show xz343.toInt + (3) < 2147483648; omega)
                  refine lv_iinc (v := xz431) (lv' := [(2, .int xz431), (4, .int xz356), (3, .int xz353), (0, .ref (qL 0)), (1, .ref (qY 0))]) hx hb dX6_tellsOf_71 hl (k := 4) rfl exz431.symm (by decide) rfl (fun ls hl => ?_)
                  refine lv_goto (tgt := 2) hx hb dX6_tellsOf_74 (by decide) ?_
                  exact ih2 ls xz431 (by show (2147483647 - xz431.toInt).toNat < n9_2; omega) (by show 0 ≤ xz431.toInt; omega) (by show 0 ≤ xz431.toInt ∧ xz431.toInt ≤ 63; omega) (lv_sub hl [3, 4, 0] rfl)
                · skip
                  rw [lg_cmp_eq] at cz429
                  have zz432 : ¬ rz426.toInt = xz428.toInt := by intro h9; apply cz429; rw [zi_eqL]; simp only [Int32.toInt_toInt64]; exact h9
                  refine lv_iconst (v := 0) hx hb dX6_tellsOf_69 (by decide) ?_
                  rw [hQ]
                  exact W.zret (v := (0 : Int32)) hx hb hr rfl (fun t ht hW => ⟨(0 : Int32), rfl, (by show (0 : Int) = 0 ∨ (0 : Int) = 1; omega), ht⟩) (fun _ h => absurd h List.not_mem_nil) dX6_tellsOf_70
            · skip
              have bz433 := fb_rng xz356
              have zz434 : ¬ xz356.toInt < (0 : Int) := fun h9 => cz380 (zi_lt.mpr h9)
              have zz435 : (7 : Int) ≤ xz356.toInt := zi_le.mp cz381
              refine W.eq (g2 := F0 m 48 ls [.ref (sY 0 0)]) rfl ?_
              refine va_get (D := (dC, dI)) (ci := 7) (v := .ref (sY 0 1)) (C := RX7) (T := TX7) (N := 9) hx hb hts (fun w h => List.mem_cons_of_mem _ (List.mem_append_right _ (List.mem_append_right _ (List.mem_append_right _ (List.mem_append_right _ (List.mem_append_right _ (List.mem_append_left _ h))))))) hown hK hP 4 rfl rfl 0 (by decide) (hts (.fieldLink RX6 61 "SagMemory$State" "memories" "[LSagMemory$Memory;") (wl_mem 11 rfl)) (fun _ h9 => h9) rfl dX6_tellsOf_48 ?_
              refine lv_iload_n hx hb dX6_tellsOf_51 rfl (lv_at hl 1 rfl) ?_
              rcases (show xz353 = 0 ∨ xz353 = 1 ∨ xz353 = 2 by simp only [zi_eq]; show xz353.toInt = 0 ∨ xz353.toInt = 1 ∨ xz353.toInt = 2; omega) with cz436 | cz436 | cz436
              · skip
                have zz437 : xz353.toInt = (0 : Int) := zi_eq.mp cz436
                refine W.eq (g2 := F0 m 52 ls [.int 0, .ref (sY 0 1)]) (by rw [cz436]) ?_
                refine va_aldq hx hb hK hP 5 4 rfl rfl (by unfold vp_in; decide) dX6_tellsOf_52 ?_
                refine W.eq (g2 := F0 m 53 ls [.ref (sY 0 2)]) rfl ?_
                have hPc := hP.sub (ws' := (List.flatten [(wMem (fun i => sY 0 (i + 2)) k (nY 0) (aY 0))])) [6, 7, 8] rfl
                refine vp_callSi (va_Run.run (va_runV (As := []) (rest := []) ⟨hx, hb, hml, hown, hts⟩ (c_X2_depth l dC dI k (fun i => sY 0 (i + 2)) (nY 0) (aY 0) (hnY 0)) (cwV 0 hts (gk_V (wl_mem 12 rfl) (wl_mem 13 rfl) (wl_mem 14 rfl) (wl_mem 15 rfl) (fun w h => List.mem_cons_of_mem _ (List.mem_append_right _ (List.mem_append_right _ (List.mem_append_right _ (List.mem_append_right _ (List.mem_append_right _ (List.mem_append_right _ (List.mem_append_left _ h)))))))) wkg_c_X2_depth) rfl rfl rfl (by decide +kernel) ⟨Nat.le_of_ble_eq_true rfl, Nat.le_of_ble_eq_true rfl⟩) ⟨fun a U g mk q => by obtain ⟨q0, qP, qK⟩ := q; exact ⟨q0, qP, va_K.moved (u := U) (U := U.calling g mk a) (Vm.Alike.refl U.vm) qK⟩, va_recv hK hPc (ci := 2) (q0 := 0) rfl rfl, fun U hU hW => ⟨rfl, by rw [hU]; exact hPc, va_K.moved hW.alike hK⟩⟩ rfl rfl hl.1 rfl (lv_room (Nat.le_of_ble_eq_true rfl)) dX6_tellsOf_53 ⟨Nat.le_of_ble_eq_true rfl, Nat.le_of_ble_eq_true rfl⟩)) (fun rz439 gz438 => ?_)
                clear hPc
                refine lv_i2l hx hb dX6_tellsOf_56 rfl ?_
                refine lv_aload_n hx hb dX6_tellsOf_57 rfl (lv_at hl 2 rfl) ?_
                refine va_get (D := (dC, dI)) (ci := 6) (v := .ref (qL 1)) (C := RX6) (T := TX6) (N := 4) hx hb hts (fun w h => List.mem_cons_of_mem _ (List.mem_append_right _ (List.mem_append_left _ h))) hown hK hP 0 rfl rfl 0 (by decide) (hts (.fieldLink RX6 9 "SagMemory$Slot" "numbers" "[J") (wl_mem 1 rfl)) (fun _ h9 => h9) rfl dX6_tellsOf_58 ?_
                refine lv_iload_n hx hb dX6_tellsOf_61 rfl (lv_at hl 4 rfl) ?_
                refine lv_iconst (v := 2) hx hb dX6_tellsOf_62 (by decide) ?_
                refine lv_iadd hx hb dX6_tellsOf_63 ?_
                refine lv_topi (fun xz440 exz440 => ?_)
                have fxz440 : xz440.toInt = xz343.toInt + (2 : Int) := by rw [exz440]; exact fb_addI (x := xz343) (y := (2 : Int32)) (by show -2147483648 ≤ xz343.toInt + (2 : Int); omega) (by show xz343.toInt + (2 : Int) < 2147483648; omega)
                refine va_lald hx hb hK hP 1 1 rfl rfl (vp_in_iff.mpr ⟨by omega, by omega⟩) dX6_tellsOf_64 ?_
                refine lv_topl (fun xz441 exz441 => ?_)
                refine W.lcmp hx hb dX6_tellsOf_65 ?_
                refine lv_if_eq (tgt := 71) hx hb dX6_tellsOf_66 (by decide) (fun cz442 => ?_) (fun cz442 => ?_)
                · skip
                  rw [lg_cmp_eq] at cz442
                  have zz443 : rz439.toInt = xz441.toInt := by have h9 := zi_eqL.mp cz442; simp only [Int32.toInt_toInt64] at h9; exact h9
                  obtain ⟨xz444, exz444⟩ : ∃ y : Int32, y = xz343 + Int32.ofInt (3) := ⟨_, rfl⟩
                  have fxz444 : xz444.toInt = xz343.toInt + (3) := by rw [exz444]; exact fb_addI (y := Int32.ofInt (3)) (by show -2147483648 ≤ xz343.toInt + (3); omega) (by show xz343.toInt + (3) < 2147483648; omega)
                  refine lv_iinc (v := xz444) (lv' := [(2, .int xz444), (4, .int xz356), (3, .int xz353), (0, .ref (qL 0)), (1, .ref (qY 0))]) hx hb dX6_tellsOf_71 hl (k := 4) rfl exz444.symm (by decide) rfl (fun ls hl => ?_)
                  refine lv_goto (tgt := 2) hx hb dX6_tellsOf_74 (by decide) ?_
                  exact ih2 ls xz444 (by show (2147483647 - xz444.toInt).toNat < n9_2; omega) (by show 0 ≤ xz444.toInt; omega) (by show 0 ≤ xz444.toInt ∧ xz444.toInt ≤ 63; omega) (lv_sub hl [3, 4, 0] rfl)
                · skip
                  rw [lg_cmp_eq] at cz442
                  have zz445 : ¬ rz439.toInt = xz441.toInt := by intro h9; apply cz442; rw [zi_eqL]; simp only [Int32.toInt_toInt64]; exact h9
                  refine lv_iconst (v := 0) hx hb dX6_tellsOf_69 (by decide) ?_
                  rw [hQ]
                  exact W.zret (v := (0 : Int32)) hx hb hr rfl (fun t ht hW => ⟨(0 : Int32), rfl, (by show (0 : Int) = 0 ∨ (0 : Int) = 1; omega), ht⟩) (fun _ h => absurd h List.not_mem_nil) dX6_tellsOf_70
              · skip
                have zz446 : xz353.toInt = (1 : Int) := zi_eq.mp cz436
                refine W.eq (g2 := F0 m 52 ls [.int 1, .ref (sY 0 1)]) (by rw [cz436]) ?_
                refine va_aldq hx hb hK hP 5 4 rfl rfl (by unfold vp_in; decide) dX6_tellsOf_52 ?_
                refine W.eq (g2 := F0 m 53 ls [.ref (sY 0 5)]) rfl ?_
                have hPc := hP.sub (ws' := (List.flatten [(wMem (fun i => sY 0 (i + 5)) k (fun i => (nY 0) (i + 1)) (fun i => (aY 0) (i + 2)))])) [9, 10, 11] rfl
                refine vp_callSi (va_Run.run (va_runV (As := []) (rest := []) ⟨hx, hb, hml, hown, hts⟩ (c_X2_depth l dC dI k (fun i => sY 0 (i + 5)) (fun i => (nY 0) (i + 1)) (fun i => (aY 0) (i + 2)) (fun i => (hnY 0) (i + 1))) (cwV 0 hts (gk_V (wl_mem 12 rfl) (wl_mem 13 rfl) (wl_mem 14 rfl) (wl_mem 15 rfl) (fun w h => List.mem_cons_of_mem _ (List.mem_append_right _ (List.mem_append_right _ (List.mem_append_right _ (List.mem_append_right _ (List.mem_append_right _ (List.mem_append_right _ (List.mem_append_left _ h)))))))) wkg_c_X2_depth) rfl rfl rfl (by decide +kernel) ⟨Nat.le_of_ble_eq_true rfl, Nat.le_of_ble_eq_true rfl⟩) ⟨fun a U g mk q => by obtain ⟨q0, qP, qK⟩ := q; exact ⟨q0, qP, va_K.moved (u := U) (U := U.calling g mk a) (Vm.Alike.refl U.vm) qK⟩, va_recv hK hPc (ci := 2) (q0 := 0) rfl rfl, fun U hU hW => ⟨rfl, by rw [hU]; exact hPc, va_K.moved hW.alike hK⟩⟩ rfl rfl hl.1 rfl (lv_room (Nat.le_of_ble_eq_true rfl)) dX6_tellsOf_53 ⟨Nat.le_of_ble_eq_true rfl, Nat.le_of_ble_eq_true rfl⟩)) (fun rz448 gz447 => ?_)
                clear hPc
                refine lv_i2l hx hb dX6_tellsOf_56 rfl ?_
                refine lv_aload_n hx hb dX6_tellsOf_57 rfl (lv_at hl 2 rfl) ?_
                refine va_get (D := (dC, dI)) (ci := 6) (v := .ref (qL 1)) (C := RX6) (T := TX6) (N := 4) hx hb hts (fun w h => List.mem_cons_of_mem _ (List.mem_append_right _ (List.mem_append_left _ h))) hown hK hP 0 rfl rfl 0 (by decide) (hts (.fieldLink RX6 9 "SagMemory$Slot" "numbers" "[J") (wl_mem 1 rfl)) (fun _ h9 => h9) rfl dX6_tellsOf_58 ?_
                refine lv_iload_n hx hb dX6_tellsOf_61 rfl (lv_at hl 4 rfl) ?_
                refine lv_iconst (v := 2) hx hb dX6_tellsOf_62 (by decide) ?_
                refine lv_iadd hx hb dX6_tellsOf_63 ?_
                refine lv_topi (fun xz449 exz449 => ?_)
                have fxz449 : xz449.toInt = xz343.toInt + (2 : Int) := by rw [exz449]; exact fb_addI (x := xz343) (y := (2 : Int32)) (by show -2147483648 ≤ xz343.toInt + (2 : Int); omega) (by show xz343.toInt + (2 : Int) < 2147483648; omega)
                refine va_lald hx hb hK hP 1 1 rfl rfl (vp_in_iff.mpr ⟨by omega, by omega⟩) dX6_tellsOf_64 ?_
                refine lv_topl (fun xz450 exz450 => ?_)
                refine W.lcmp hx hb dX6_tellsOf_65 ?_
                refine lv_if_eq (tgt := 71) hx hb dX6_tellsOf_66 (by decide) (fun cz451 => ?_) (fun cz451 => ?_)
                · skip
                  rw [lg_cmp_eq] at cz451
                  have zz452 : rz448.toInt = xz450.toInt := by have h9 := zi_eqL.mp cz451; simp only [Int32.toInt_toInt64] at h9; exact h9
                  obtain ⟨xz453, exz453⟩ : ∃ y : Int32, y = xz343 + Int32.ofInt (3) := ⟨_, rfl⟩
                  have fxz453 : xz453.toInt = xz343.toInt + (3) := by rw [exz453]; exact fb_addI (y := Int32.ofInt (3)) (by show -2147483648 ≤ xz343.toInt + (3); omega) (by show xz343.toInt + (3) < 2147483648; omega)
                  refine lv_iinc (v := xz453) (lv' := [(2, .int xz453), (4, .int xz356), (3, .int xz353), (0, .ref (qL 0)), (1, .ref (qY 0))]) hx hb dX6_tellsOf_71 hl (k := 4) rfl exz453.symm (by decide) rfl (fun ls hl => ?_)
                  refine lv_goto (tgt := 2) hx hb dX6_tellsOf_74 (by decide) ?_
                  exact ih2 ls xz453 (by show (2147483647 - xz453.toInt).toNat < n9_2; omega) (by show 0 ≤ xz453.toInt; omega) (by show 0 ≤ xz453.toInt ∧ xz453.toInt ≤ 63; omega) (lv_sub hl [3, 4, 0] rfl)
                · skip
                  rw [lg_cmp_eq] at cz451
                  have zz454 : ¬ rz448.toInt = xz450.toInt := by intro h9; apply cz451; rw [zi_eqL]; simp only [Int32.toInt_toInt64]; exact h9
                  refine lv_iconst (v := 0) hx hb dX6_tellsOf_69 (by decide) ?_
                  rw [hQ]
                  exact W.zret (v := (0 : Int32)) hx hb hr rfl (fun t ht hW => ⟨(0 : Int32), rfl, (by show (0 : Int) = 0 ∨ (0 : Int) = 1; omega), ht⟩) (fun _ h => absurd h List.not_mem_nil) dX6_tellsOf_70
              · skip
                have zz455 : xz353.toInt = (2 : Int) := zi_eq.mp cz436
                refine W.eq (g2 := F0 m 52 ls [.int 2, .ref (sY 0 1)]) (by rw [cz436]) ?_
                refine va_aldq hx hb hK hP 5 4 rfl rfl (by unfold vp_in; decide) dX6_tellsOf_52 ?_
                refine W.eq (g2 := F0 m 53 ls [.ref (sY 0 8)]) rfl ?_
                have hPc := hP.sub (ws' := (List.flatten [(wMem (fun i => sY 0 (i + 8)) k (fun i => (nY 0) (i + 2)) (fun i => (aY 0) (i + 4)))])) [12, 13, 14] rfl
                refine vp_callSi (va_Run.run (va_runV (As := []) (rest := []) ⟨hx, hb, hml, hown, hts⟩ (c_X2_depth l dC dI k (fun i => sY 0 (i + 8)) (fun i => (nY 0) (i + 2)) (fun i => (aY 0) (i + 4)) (fun i => (hnY 0) (i + 2))) (cwV 0 hts (gk_V (wl_mem 12 rfl) (wl_mem 13 rfl) (wl_mem 14 rfl) (wl_mem 15 rfl) (fun w h => List.mem_cons_of_mem _ (List.mem_append_right _ (List.mem_append_right _ (List.mem_append_right _ (List.mem_append_right _ (List.mem_append_right _ (List.mem_append_right _ (List.mem_append_left _ h)))))))) wkg_c_X2_depth) rfl rfl rfl (by decide +kernel) ⟨Nat.le_of_ble_eq_true rfl, Nat.le_of_ble_eq_true rfl⟩) ⟨fun a U g mk q => by obtain ⟨q0, qP, qK⟩ := q; exact ⟨q0, qP, va_K.moved (u := U) (U := U.calling g mk a) (Vm.Alike.refl U.vm) qK⟩, va_recv hK hPc (ci := 2) (q0 := 0) rfl rfl, fun U hU hW => ⟨rfl, by rw [hU]; exact hPc, va_K.moved hW.alike hK⟩⟩ rfl rfl hl.1 rfl (lv_room (Nat.le_of_ble_eq_true rfl)) dX6_tellsOf_53 ⟨Nat.le_of_ble_eq_true rfl, Nat.le_of_ble_eq_true rfl⟩)) (fun rz457 gz456 => ?_)
                clear hPc
                refine lv_i2l hx hb dX6_tellsOf_56 rfl ?_
                refine lv_aload_n hx hb dX6_tellsOf_57 rfl (lv_at hl 2 rfl) ?_
                refine va_get (D := (dC, dI)) (ci := 6) (v := .ref (qL 1)) (C := RX6) (T := TX6) (N := 4) hx hb hts (fun w h => List.mem_cons_of_mem _ (List.mem_append_right _ (List.mem_append_left _ h))) hown hK hP 0 rfl rfl 0 (by decide) (hts (.fieldLink RX6 9 "SagMemory$Slot" "numbers" "[J") (wl_mem 1 rfl)) (fun _ h9 => h9) rfl dX6_tellsOf_58 ?_
                refine lv_iload_n hx hb dX6_tellsOf_61 rfl (lv_at hl 4 rfl) ?_
                refine lv_iconst (v := 2) hx hb dX6_tellsOf_62 (by decide) ?_
                refine lv_iadd hx hb dX6_tellsOf_63 ?_
                refine lv_topi (fun xz458 exz458 => ?_)
                have fxz458 : xz458.toInt = xz343.toInt + (2 : Int) := by rw [exz458]; exact fb_addI (x := xz343) (y := (2 : Int32)) (by show -2147483648 ≤ xz343.toInt + (2 : Int); omega) (by show xz343.toInt + (2 : Int) < 2147483648; omega)
                refine va_lald hx hb hK hP 1 1 rfl rfl (vp_in_iff.mpr ⟨by omega, by omega⟩) dX6_tellsOf_64 ?_
                refine lv_topl (fun xz459 exz459 => ?_)
                refine W.lcmp hx hb dX6_tellsOf_65 ?_
                refine lv_if_eq (tgt := 71) hx hb dX6_tellsOf_66 (by decide) (fun cz460 => ?_) (fun cz460 => ?_)
                · skip
                  rw [lg_cmp_eq] at cz460
                  have zz461 : rz457.toInt = xz459.toInt := by have h9 := zi_eqL.mp cz460; simp only [Int32.toInt_toInt64] at h9; exact h9
                  obtain ⟨xz462, exz462⟩ : ∃ y : Int32, y = xz343 + Int32.ofInt (3) := ⟨_, rfl⟩
                  have fxz462 : xz462.toInt = xz343.toInt + (3) := by rw [exz462]; exact fb_addI (y := Int32.ofInt (3)) (by show -2147483648 ≤ xz343.toInt + (3); omega) (by show xz343.toInt + (3) < 2147483648; omega)
                  refine lv_iinc (v := xz462) (lv' := [(2, .int xz462), (4, .int xz356), (3, .int xz353), (0, .ref (qL 0)), (1, .ref (qY 0))]) hx hb dX6_tellsOf_71 hl (k := 4) rfl exz462.symm (by decide) rfl (fun ls hl => ?_)
                  refine lv_goto (tgt := 2) hx hb dX6_tellsOf_74 (by decide) ?_
                  exact ih2 ls xz462 (by show (2147483647 - xz462.toInt).toNat < n9_2; omega) (by show 0 ≤ xz462.toInt; omega) (by show 0 ≤ xz462.toInt ∧ xz462.toInt ≤ 63; omega) (lv_sub hl [3, 4, 0] rfl)
                · skip
                  rw [lg_cmp_eq] at cz460
                  have zz463 : ¬ rz457.toInt = xz459.toInt := by intro h9; apply cz460; rw [zi_eqL]; simp only [Int32.toInt_toInt64]; exact h9
                  refine lv_iconst (v := 0) hx hb dX6_tellsOf_69 (by decide) ?_
                  rw [hQ]
                  exact W.zret (v := (0 : Int32)) hx hb hr rfl (fun t ht hW => ⟨(0 : Int32), rfl, (by show (0 : Int) = 0 ∨ (0 : Int) = 1; omega), ht⟩) (fun _ h => absurd h List.not_mem_nil) dX6_tellsOf_70
            · skip
              have bz464 := fb_rng xz356
              have zz465 : ¬ xz356.toInt < (0 : Int) := fun h9 => cz382 (zi_lt.mpr h9)
              have zz466 : ¬ (7 : Int) ≤ xz356.toInt := fun h9 => cz383 (zi_le.mpr h9)
              have zz467 : xz356.toInt = (0 : Int) := zi_eq.mp cz384
              refine W.eq (g2 := F0 m 48 ls [.ref (sY 1 0)]) rfl ?_
              refine va_get (D := (dC, dI)) (ci := 7) (v := .ref (sY 1 1)) (C := RX7) (T := TX7) (N := 9) hx hb hts (fun w h => List.mem_cons_of_mem _ (List.mem_append_right _ (List.mem_append_right _ (List.mem_append_right _ (List.mem_append_right _ (List.mem_append_right _ (List.mem_append_left _ h))))))) hown hK hP 15 rfl rfl 0 (by decide) (hts (.fieldLink RX6 61 "SagMemory$State" "memories" "[LSagMemory$Memory;") (wl_mem 11 rfl)) (fun _ h9 => h9) rfl dX6_tellsOf_48 ?_
              refine lv_iload_n hx hb dX6_tellsOf_51 rfl (lv_at hl 1 rfl) ?_
              rcases (show xz353 = 0 ∨ xz353 = 1 ∨ xz353 = 2 by simp only [zi_eq]; show xz353.toInt = 0 ∨ xz353.toInt = 1 ∨ xz353.toInt = 2; omega) with cz468 | cz468 | cz468
              · skip
                have zz469 : xz353.toInt = (0 : Int) := zi_eq.mp cz468
                refine W.eq (g2 := F0 m 52 ls [.int 0, .ref (sY 1 1)]) (by rw [cz468]) ?_
                refine va_aldq hx hb hK hP 16 4 rfl rfl (by unfold vp_in; decide) dX6_tellsOf_52 ?_
                refine W.eq (g2 := F0 m 53 ls [.ref (sY 1 2)]) rfl ?_
                have hPc := hP.sub (ws' := (List.flatten [(wMem (fun i => sY 1 (i + 2)) k (nY 1) (aY 1))])) [17, 18, 19] rfl
                refine vp_callSi (va_Run.run (va_runV (As := []) (rest := []) ⟨hx, hb, hml, hown, hts⟩ (c_X2_depth l dC dI k (fun i => sY 1 (i + 2)) (nY 1) (aY 1) (hnY 1)) (cwV 0 hts (gk_V (wl_mem 12 rfl) (wl_mem 13 rfl) (wl_mem 14 rfl) (wl_mem 15 rfl) (fun w h => List.mem_cons_of_mem _ (List.mem_append_right _ (List.mem_append_right _ (List.mem_append_right _ (List.mem_append_right _ (List.mem_append_right _ (List.mem_append_right _ (List.mem_append_left _ h)))))))) wkg_c_X2_depth) rfl rfl rfl (by decide +kernel) ⟨Nat.le_of_ble_eq_true rfl, Nat.le_of_ble_eq_true rfl⟩) ⟨fun a U g mk q => by obtain ⟨q0, qP, qK⟩ := q; exact ⟨q0, qP, va_K.moved (u := U) (U := U.calling g mk a) (Vm.Alike.refl U.vm) qK⟩, va_recv hK hPc (ci := 2) (q0 := 0) rfl rfl, fun U hU hW => ⟨rfl, by rw [hU]; exact hPc, va_K.moved hW.alike hK⟩⟩ rfl rfl hl.1 rfl (lv_room (Nat.le_of_ble_eq_true rfl)) dX6_tellsOf_53 ⟨Nat.le_of_ble_eq_true rfl, Nat.le_of_ble_eq_true rfl⟩)) (fun rz471 gz470 => ?_)
                clear hPc
                refine lv_i2l hx hb dX6_tellsOf_56 rfl ?_
                refine lv_aload_n hx hb dX6_tellsOf_57 rfl (lv_at hl 2 rfl) ?_
                refine va_get (D := (dC, dI)) (ci := 6) (v := .ref (qL 1)) (C := RX6) (T := TX6) (N := 4) hx hb hts (fun w h => List.mem_cons_of_mem _ (List.mem_append_right _ (List.mem_append_left _ h))) hown hK hP 0 rfl rfl 0 (by decide) (hts (.fieldLink RX6 9 "SagMemory$Slot" "numbers" "[J") (wl_mem 1 rfl)) (fun _ h9 => h9) rfl dX6_tellsOf_58 ?_
                refine lv_iload_n hx hb dX6_tellsOf_61 rfl (lv_at hl 4 rfl) ?_
                refine lv_iconst (v := 2) hx hb dX6_tellsOf_62 (by decide) ?_
                refine lv_iadd hx hb dX6_tellsOf_63 ?_
                refine lv_topi (fun xz472 exz472 => ?_)
                have fxz472 : xz472.toInt = xz343.toInt + (2 : Int) := by rw [exz472]; exact fb_addI (x := xz343) (y := (2 : Int32)) (by show -2147483648 ≤ xz343.toInt + (2 : Int); omega) (by show xz343.toInt + (2 : Int) < 2147483648; omega)
                refine va_lald hx hb hK hP 1 1 rfl rfl (vp_in_iff.mpr ⟨by omega, by omega⟩) dX6_tellsOf_64 ?_
                refine lv_topl (fun xz473 exz473 => ?_)
                refine W.lcmp hx hb dX6_tellsOf_65 ?_
                refine lv_if_eq (tgt := 71) hx hb dX6_tellsOf_66 (by decide) (fun cz474 => ?_) (fun cz474 => ?_)
                · skip
                  rw [lg_cmp_eq] at cz474
                  have zz475 : rz471.toInt = xz473.toInt := by have h9 := zi_eqL.mp cz474; simp only [Int32.toInt_toInt64] at h9; exact h9
                  obtain ⟨xz476, exz476⟩ : ∃ y : Int32, y = xz343 + Int32.ofInt (3) := ⟨_, rfl⟩
                  have fxz476 : xz476.toInt = xz343.toInt + (3) := by rw [exz476]; exact fb_addI (y := Int32.ofInt (3)) (by show -2147483648 ≤ xz343.toInt + (3); omega) (by show xz343.toInt + (3) < 2147483648; omega)
                  refine lv_iinc (v := xz476) (lv' := [(2, .int xz476), (4, .int xz356), (3, .int xz353), (0, .ref (qL 0)), (1, .ref (qY 0))]) hx hb dX6_tellsOf_71 hl (k := 4) rfl exz476.symm (by decide) rfl (fun ls hl => ?_)
                  refine lv_goto (tgt := 2) hx hb dX6_tellsOf_74 (by decide) ?_
                  exact ih2 ls xz476 (by show (2147483647 - xz476.toInt).toNat < n9_2; omega) (by show 0 ≤ xz476.toInt; omega) (by show 0 ≤ xz476.toInt ∧ xz476.toInt ≤ 63; omega) (lv_sub hl [3, 4, 0] rfl)
                · skip
                  rw [lg_cmp_eq] at cz474
                  have zz477 : ¬ rz471.toInt = xz473.toInt := by intro h9; apply cz474; rw [zi_eqL]; simp only [Int32.toInt_toInt64]; exact h9
                  refine lv_iconst (v := 0) hx hb dX6_tellsOf_69 (by decide) ?_
                  rw [hQ]
                  exact W.zret (v := (0 : Int32)) hx hb hr rfl (fun t ht hW => ⟨(0 : Int32), rfl, (by show (0 : Int) = 0 ∨ (0 : Int) = 1; omega), ht⟩) (fun _ h => absurd h List.not_mem_nil) dX6_tellsOf_70
              · skip
                have zz478 : xz353.toInt = (1 : Int) := zi_eq.mp cz468
                refine W.eq (g2 := F0 m 52 ls [.int 1, .ref (sY 1 1)]) (by rw [cz468]) ?_
                refine va_aldq hx hb hK hP 16 4 rfl rfl (by unfold vp_in; decide) dX6_tellsOf_52 ?_
                refine W.eq (g2 := F0 m 53 ls [.ref (sY 1 5)]) rfl ?_
                have hPc := hP.sub (ws' := (List.flatten [(wMem (fun i => sY 1 (i + 5)) k (fun i => (nY 1) (i + 1)) (fun i => (aY 1) (i + 2)))])) [20, 21, 22] rfl
                refine vp_callSi (va_Run.run (va_runV (As := []) (rest := []) ⟨hx, hb, hml, hown, hts⟩ (c_X2_depth l dC dI k (fun i => sY 1 (i + 5)) (fun i => (nY 1) (i + 1)) (fun i => (aY 1) (i + 2)) (fun i => (hnY 1) (i + 1))) (cwV 0 hts (gk_V (wl_mem 12 rfl) (wl_mem 13 rfl) (wl_mem 14 rfl) (wl_mem 15 rfl) (fun w h => List.mem_cons_of_mem _ (List.mem_append_right _ (List.mem_append_right _ (List.mem_append_right _ (List.mem_append_right _ (List.mem_append_right _ (List.mem_append_right _ (List.mem_append_left _ h)))))))) wkg_c_X2_depth) rfl rfl rfl (by decide +kernel) ⟨Nat.le_of_ble_eq_true rfl, Nat.le_of_ble_eq_true rfl⟩) ⟨fun a U g mk q => by obtain ⟨q0, qP, qK⟩ := q; exact ⟨q0, qP, va_K.moved (u := U) (U := U.calling g mk a) (Vm.Alike.refl U.vm) qK⟩, va_recv hK hPc (ci := 2) (q0 := 0) rfl rfl, fun U hU hW => ⟨rfl, by rw [hU]; exact hPc, va_K.moved hW.alike hK⟩⟩ rfl rfl hl.1 rfl (lv_room (Nat.le_of_ble_eq_true rfl)) dX6_tellsOf_53 ⟨Nat.le_of_ble_eq_true rfl, Nat.le_of_ble_eq_true rfl⟩)) (fun rz480 gz479 => ?_)
                clear hPc
                refine lv_i2l hx hb dX6_tellsOf_56 rfl ?_
                refine lv_aload_n hx hb dX6_tellsOf_57 rfl (lv_at hl 2 rfl) ?_
                refine va_get (D := (dC, dI)) (ci := 6) (v := .ref (qL 1)) (C := RX6) (T := TX6) (N := 4) hx hb hts (fun w h => List.mem_cons_of_mem _ (List.mem_append_right _ (List.mem_append_left _ h))) hown hK hP 0 rfl rfl 0 (by decide) (hts (.fieldLink RX6 9 "SagMemory$Slot" "numbers" "[J") (wl_mem 1 rfl)) (fun _ h9 => h9) rfl dX6_tellsOf_58 ?_
                refine lv_iload_n hx hb dX6_tellsOf_61 rfl (lv_at hl 4 rfl) ?_
                refine lv_iconst (v := 2) hx hb dX6_tellsOf_62 (by decide) ?_
                refine lv_iadd hx hb dX6_tellsOf_63 ?_
                refine lv_topi (fun xz481 exz481 => ?_)
                have fxz481 : xz481.toInt = xz343.toInt + (2 : Int) := by rw [exz481]; exact fb_addI (x := xz343) (y := (2 : Int32)) (by show -2147483648 ≤ xz343.toInt + (2 : Int); omega) (by show xz343.toInt + (2 : Int) < 2147483648; omega)
                refine va_lald hx hb hK hP 1 1 rfl rfl (vp_in_iff.mpr ⟨by omega, by omega⟩) dX6_tellsOf_64 ?_
                refine lv_topl (fun xz482 exz482 => ?_)
                refine W.lcmp hx hb dX6_tellsOf_65 ?_
                refine lv_if_eq (tgt := 71) hx hb dX6_tellsOf_66 (by decide) (fun cz483 => ?_) (fun cz483 => ?_)
                · skip
                  rw [lg_cmp_eq] at cz483
                  have zz484 : rz480.toInt = xz482.toInt := by have h9 := zi_eqL.mp cz483; simp only [Int32.toInt_toInt64] at h9; exact h9
                  obtain ⟨xz485, exz485⟩ : ∃ y : Int32, y = xz343 + Int32.ofInt (3) := ⟨_, rfl⟩
                  have fxz485 : xz485.toInt = xz343.toInt + (3) := by rw [exz485]; exact fb_addI (y := Int32.ofInt (3)) (by show -2147483648 ≤ xz343.toInt + (3); omega) (by show xz343.toInt + (3) < 2147483648; omega)
                  refine lv_iinc (v := xz485) (lv' := [(2, .int xz485), (4, .int xz356), (3, .int xz353), (0, .ref (qL 0)), (1, .ref (qY 0))]) hx hb dX6_tellsOf_71 hl (k := 4) rfl exz485.symm (by decide) rfl (fun ls hl => ?_)
                  refine lv_goto (tgt := 2) hx hb dX6_tellsOf_74 (by decide) ?_
                  exact ih2 ls xz485 (by show (2147483647 - xz485.toInt).toNat < n9_2; omega) (by show 0 ≤ xz485.toInt; omega) (by show 0 ≤ xz485.toInt ∧ xz485.toInt ≤ 63; omega) (lv_sub hl [3, 4, 0] rfl)
                · skip
                  rw [lg_cmp_eq] at cz483
                  have zz486 : ¬ rz480.toInt = xz482.toInt := by intro h9; apply cz483; rw [zi_eqL]; simp only [Int32.toInt_toInt64]; exact h9
                  refine lv_iconst (v := 0) hx hb dX6_tellsOf_69 (by decide) ?_
                  rw [hQ]
                  exact W.zret (v := (0 : Int32)) hx hb hr rfl (fun t ht hW => ⟨(0 : Int32), rfl, (by show (0 : Int) = 0 ∨ (0 : Int) = 1; omega), ht⟩) (fun _ h => absurd h List.not_mem_nil) dX6_tellsOf_70
              · skip
                have zz487 : xz353.toInt = (2 : Int) := zi_eq.mp cz468
                refine W.eq (g2 := F0 m 52 ls [.int 2, .ref (sY 1 1)]) (by rw [cz468]) ?_
                refine va_aldq hx hb hK hP 16 4 rfl rfl (by unfold vp_in; decide) dX6_tellsOf_52 ?_
                refine W.eq (g2 := F0 m 53 ls [.ref (sY 1 8)]) rfl ?_
                have hPc := hP.sub (ws' := (List.flatten [(wMem (fun i => sY 1 (i + 8)) k (fun i => (nY 1) (i + 2)) (fun i => (aY 1) (i + 4)))])) [23, 24, 25] rfl
                refine vp_callSi (va_Run.run (va_runV (As := []) (rest := []) ⟨hx, hb, hml, hown, hts⟩ (c_X2_depth l dC dI k (fun i => sY 1 (i + 8)) (fun i => (nY 1) (i + 2)) (fun i => (aY 1) (i + 4)) (fun i => (hnY 1) (i + 2))) (cwV 0 hts (gk_V (wl_mem 12 rfl) (wl_mem 13 rfl) (wl_mem 14 rfl) (wl_mem 15 rfl) (fun w h => List.mem_cons_of_mem _ (List.mem_append_right _ (List.mem_append_right _ (List.mem_append_right _ (List.mem_append_right _ (List.mem_append_right _ (List.mem_append_right _ (List.mem_append_left _ h)))))))) wkg_c_X2_depth) rfl rfl rfl (by decide +kernel) ⟨Nat.le_of_ble_eq_true rfl, Nat.le_of_ble_eq_true rfl⟩) ⟨fun a U g mk q => by obtain ⟨q0, qP, qK⟩ := q; exact ⟨q0, qP, va_K.moved (u := U) (U := U.calling g mk a) (Vm.Alike.refl U.vm) qK⟩, va_recv hK hPc (ci := 2) (q0 := 0) rfl rfl, fun U hU hW => ⟨rfl, by rw [hU]; exact hPc, va_K.moved hW.alike hK⟩⟩ rfl rfl hl.1 rfl (lv_room (Nat.le_of_ble_eq_true rfl)) dX6_tellsOf_53 ⟨Nat.le_of_ble_eq_true rfl, Nat.le_of_ble_eq_true rfl⟩)) (fun rz489 gz488 => ?_)
                clear hPc
                refine lv_i2l hx hb dX6_tellsOf_56 rfl ?_
                refine lv_aload_n hx hb dX6_tellsOf_57 rfl (lv_at hl 2 rfl) ?_
                refine va_get (D := (dC, dI)) (ci := 6) (v := .ref (qL 1)) (C := RX6) (T := TX6) (N := 4) hx hb hts (fun w h => List.mem_cons_of_mem _ (List.mem_append_right _ (List.mem_append_left _ h))) hown hK hP 0 rfl rfl 0 (by decide) (hts (.fieldLink RX6 9 "SagMemory$Slot" "numbers" "[J") (wl_mem 1 rfl)) (fun _ h9 => h9) rfl dX6_tellsOf_58 ?_
                refine lv_iload_n hx hb dX6_tellsOf_61 rfl (lv_at hl 4 rfl) ?_
                refine lv_iconst (v := 2) hx hb dX6_tellsOf_62 (by decide) ?_
                refine lv_iadd hx hb dX6_tellsOf_63 ?_
                refine lv_topi (fun xz490 exz490 => ?_)
                have fxz490 : xz490.toInt = xz343.toInt + (2 : Int) := by rw [exz490]; exact fb_addI (x := xz343) (y := (2 : Int32)) (by show -2147483648 ≤ xz343.toInt + (2 : Int); omega) (by show xz343.toInt + (2 : Int) < 2147483648; omega)
                refine va_lald hx hb hK hP 1 1 rfl rfl (vp_in_iff.mpr ⟨by omega, by omega⟩) dX6_tellsOf_64 ?_
                refine lv_topl (fun xz491 exz491 => ?_)
                refine W.lcmp hx hb dX6_tellsOf_65 ?_
                refine lv_if_eq (tgt := 71) hx hb dX6_tellsOf_66 (by decide) (fun cz492 => ?_) (fun cz492 => ?_)
                · skip
                  rw [lg_cmp_eq] at cz492
                  have zz493 : rz489.toInt = xz491.toInt := by have h9 := zi_eqL.mp cz492; simp only [Int32.toInt_toInt64] at h9; exact h9
                  obtain ⟨xz494, exz494⟩ : ∃ y : Int32, y = xz343 + Int32.ofInt (3) := ⟨_, rfl⟩
                  have fxz494 : xz494.toInt = xz343.toInt + (3) := by rw [exz494]; exact fb_addI (y := Int32.ofInt (3)) (by show -2147483648 ≤ xz343.toInt + (3); omega) (by show xz343.toInt + (3) < 2147483648; omega)
                  refine lv_iinc (v := xz494) (lv' := [(2, .int xz494), (4, .int xz356), (3, .int xz353), (0, .ref (qL 0)), (1, .ref (qY 0))]) hx hb dX6_tellsOf_71 hl (k := 4) rfl exz494.symm (by decide) rfl (fun ls hl => ?_)
                  refine lv_goto (tgt := 2) hx hb dX6_tellsOf_74 (by decide) ?_
                  exact ih2 ls xz494 (by show (2147483647 - xz494.toInt).toNat < n9_2; omega) (by show 0 ≤ xz494.toInt; omega) (by show 0 ≤ xz494.toInt ∧ xz494.toInt ≤ 63; omega) (lv_sub hl [3, 4, 0] rfl)
                · skip
                  rw [lg_cmp_eq] at cz492
                  have zz495 : ¬ rz489.toInt = xz491.toInt := by intro h9; apply cz492; rw [zi_eqL]; simp only [Int32.toInt_toInt64]; exact h9
                  refine lv_iconst (v := 0) hx hb dX6_tellsOf_69 (by decide) ?_
                  rw [hQ]
                  exact W.zret (v := (0 : Int32)) hx hb hr rfl (fun t ht hW => ⟨(0 : Int32), rfl, (by show (0 : Int) = 0 ∨ (0 : Int) = 1; omega), ht⟩) (fun _ h => absurd h List.not_mem_nil) dX6_tellsOf_70
            · skip
              have bz496 := fb_rng xz356
              have zz497 : ¬ xz356.toInt < (0 : Int) := fun h9 => cz385 (zi_lt.mpr h9)
              have zz498 : ¬ (7 : Int) ≤ xz356.toInt := fun h9 => cz386 (zi_le.mpr h9)
              have zz499 : xz356.toInt = (1 : Int) := zi_eq.mp cz387
              refine W.eq (g2 := F0 m 48 ls [.ref (sY 2 0)]) rfl ?_
              refine va_get (D := (dC, dI)) (ci := 7) (v := .ref (sY 2 1)) (C := RX7) (T := TX7) (N := 9) hx hb hts (fun w h => List.mem_cons_of_mem _ (List.mem_append_right _ (List.mem_append_right _ (List.mem_append_right _ (List.mem_append_right _ (List.mem_append_right _ (List.mem_append_left _ h))))))) hown hK hP 26 rfl rfl 0 (by decide) (hts (.fieldLink RX6 61 "SagMemory$State" "memories" "[LSagMemory$Memory;") (wl_mem 11 rfl)) (fun _ h9 => h9) rfl dX6_tellsOf_48 ?_
              refine lv_iload_n hx hb dX6_tellsOf_51 rfl (lv_at hl 1 rfl) ?_
              rcases (show xz353 = 0 ∨ xz353 = 1 ∨ xz353 = 2 by simp only [zi_eq]; show xz353.toInt = 0 ∨ xz353.toInt = 1 ∨ xz353.toInt = 2; omega) with cz500 | cz500 | cz500
              · skip
                have zz501 : xz353.toInt = (0 : Int) := zi_eq.mp cz500
                refine W.eq (g2 := F0 m 52 ls [.int 0, .ref (sY 2 1)]) (by rw [cz500]) ?_
                refine va_aldq hx hb hK hP 27 4 rfl rfl (by unfold vp_in; decide) dX6_tellsOf_52 ?_
                refine W.eq (g2 := F0 m 53 ls [.ref (sY 2 2)]) rfl ?_
                have hPc := hP.sub (ws' := (List.flatten [(wMem (fun i => sY 2 (i + 2)) k (nY 2) (aY 2))])) [28, 29, 30] rfl
                refine vp_callSi (va_Run.run (va_runV (As := []) (rest := []) ⟨hx, hb, hml, hown, hts⟩ (c_X2_depth l dC dI k (fun i => sY 2 (i + 2)) (nY 2) (aY 2) (hnY 2)) (cwV 0 hts (gk_V (wl_mem 12 rfl) (wl_mem 13 rfl) (wl_mem 14 rfl) (wl_mem 15 rfl) (fun w h => List.mem_cons_of_mem _ (List.mem_append_right _ (List.mem_append_right _ (List.mem_append_right _ (List.mem_append_right _ (List.mem_append_right _ (List.mem_append_right _ (List.mem_append_left _ h)))))))) wkg_c_X2_depth) rfl rfl rfl (by decide +kernel) ⟨Nat.le_of_ble_eq_true rfl, Nat.le_of_ble_eq_true rfl⟩) ⟨fun a U g mk q => by obtain ⟨q0, qP, qK⟩ := q; exact ⟨q0, qP, va_K.moved (u := U) (U := U.calling g mk a) (Vm.Alike.refl U.vm) qK⟩, va_recv hK hPc (ci := 2) (q0 := 0) rfl rfl, fun U hU hW => ⟨rfl, by rw [hU]; exact hPc, va_K.moved hW.alike hK⟩⟩ rfl rfl hl.1 rfl (lv_room (Nat.le_of_ble_eq_true rfl)) dX6_tellsOf_53 ⟨Nat.le_of_ble_eq_true rfl, Nat.le_of_ble_eq_true rfl⟩)) (fun rz503 gz502 => ?_)
                clear hPc
                refine lv_i2l hx hb dX6_tellsOf_56 rfl ?_
                refine lv_aload_n hx hb dX6_tellsOf_57 rfl (lv_at hl 2 rfl) ?_
                refine va_get (D := (dC, dI)) (ci := 6) (v := .ref (qL 1)) (C := RX6) (T := TX6) (N := 4) hx hb hts (fun w h => List.mem_cons_of_mem _ (List.mem_append_right _ (List.mem_append_left _ h))) hown hK hP 0 rfl rfl 0 (by decide) (hts (.fieldLink RX6 9 "SagMemory$Slot" "numbers" "[J") (wl_mem 1 rfl)) (fun _ h9 => h9) rfl dX6_tellsOf_58 ?_
                refine lv_iload_n hx hb dX6_tellsOf_61 rfl (lv_at hl 4 rfl) ?_
                refine lv_iconst (v := 2) hx hb dX6_tellsOf_62 (by decide) ?_
                refine lv_iadd hx hb dX6_tellsOf_63 ?_
                refine lv_topi (fun xz504 exz504 => ?_)
                have fxz504 : xz504.toInt = xz343.toInt + (2 : Int) := by rw [exz504]; exact fb_addI (x := xz343) (y := (2 : Int32)) (by show -2147483648 ≤ xz343.toInt + (2 : Int); omega) (by show xz343.toInt + (2 : Int) < 2147483648; omega)
                refine va_lald hx hb hK hP 1 1 rfl rfl (vp_in_iff.mpr ⟨by omega, by omega⟩) dX6_tellsOf_64 ?_
                refine lv_topl (fun xz505 exz505 => ?_)
                refine W.lcmp hx hb dX6_tellsOf_65 ?_
                refine lv_if_eq (tgt := 71) hx hb dX6_tellsOf_66 (by decide) (fun cz506 => ?_) (fun cz506 => ?_)
                · skip
                  rw [lg_cmp_eq] at cz506
                  have zz507 : rz503.toInt = xz505.toInt := by have h9 := zi_eqL.mp cz506; simp only [Int32.toInt_toInt64] at h9; exact h9
                  obtain ⟨xz508, exz508⟩ : ∃ y : Int32, y = xz343 + Int32.ofInt (3) := ⟨_, rfl⟩
                  have fxz508 : xz508.toInt = xz343.toInt + (3) := by rw [exz508]; exact fb_addI (y := Int32.ofInt (3)) (by show -2147483648 ≤ xz343.toInt + (3); omega) (by show xz343.toInt + (3) < 2147483648; omega)
                  refine lv_iinc (v := xz508) (lv' := [(2, .int xz508), (4, .int xz356), (3, .int xz353), (0, .ref (qL 0)), (1, .ref (qY 0))]) hx hb dX6_tellsOf_71 hl (k := 4) rfl exz508.symm (by decide) rfl (fun ls hl => ?_)
                  refine lv_goto (tgt := 2) hx hb dX6_tellsOf_74 (by decide) ?_
                  exact ih2 ls xz508 (by show (2147483647 - xz508.toInt).toNat < n9_2; omega) (by show 0 ≤ xz508.toInt; omega) (by show 0 ≤ xz508.toInt ∧ xz508.toInt ≤ 63; omega) (lv_sub hl [3, 4, 0] rfl)
                · skip
                  rw [lg_cmp_eq] at cz506
                  have zz509 : ¬ rz503.toInt = xz505.toInt := by intro h9; apply cz506; rw [zi_eqL]; simp only [Int32.toInt_toInt64]; exact h9
                  refine lv_iconst (v := 0) hx hb dX6_tellsOf_69 (by decide) ?_
                  rw [hQ]
                  exact W.zret (v := (0 : Int32)) hx hb hr rfl (fun t ht hW => ⟨(0 : Int32), rfl, (by show (0 : Int) = 0 ∨ (0 : Int) = 1; omega), ht⟩) (fun _ h => absurd h List.not_mem_nil) dX6_tellsOf_70
              · skip
                have zz510 : xz353.toInt = (1 : Int) := zi_eq.mp cz500
                refine W.eq (g2 := F0 m 52 ls [.int 1, .ref (sY 2 1)]) (by rw [cz500]) ?_
                refine va_aldq hx hb hK hP 27 4 rfl rfl (by unfold vp_in; decide) dX6_tellsOf_52 ?_
                refine W.eq (g2 := F0 m 53 ls [.ref (sY 2 5)]) rfl ?_
                have hPc := hP.sub (ws' := (List.flatten [(wMem (fun i => sY 2 (i + 5)) k (fun i => (nY 2) (i + 1)) (fun i => (aY 2) (i + 2)))])) [31, 32, 33] rfl
                refine vp_callSi (va_Run.run (va_runV (As := []) (rest := []) ⟨hx, hb, hml, hown, hts⟩ (c_X2_depth l dC dI k (fun i => sY 2 (i + 5)) (fun i => (nY 2) (i + 1)) (fun i => (aY 2) (i + 2)) (fun i => (hnY 2) (i + 1))) (cwV 0 hts (gk_V (wl_mem 12 rfl) (wl_mem 13 rfl) (wl_mem 14 rfl) (wl_mem 15 rfl) (fun w h => List.mem_cons_of_mem _ (List.mem_append_right _ (List.mem_append_right _ (List.mem_append_right _ (List.mem_append_right _ (List.mem_append_right _ (List.mem_append_right _ (List.mem_append_left _ h)))))))) wkg_c_X2_depth) rfl rfl rfl (by decide +kernel) ⟨Nat.le_of_ble_eq_true rfl, Nat.le_of_ble_eq_true rfl⟩) ⟨fun a U g mk q => by obtain ⟨q0, qP, qK⟩ := q; exact ⟨q0, qP, va_K.moved (u := U) (U := U.calling g mk a) (Vm.Alike.refl U.vm) qK⟩, va_recv hK hPc (ci := 2) (q0 := 0) rfl rfl, fun U hU hW => ⟨rfl, by rw [hU]; exact hPc, va_K.moved hW.alike hK⟩⟩ rfl rfl hl.1 rfl (lv_room (Nat.le_of_ble_eq_true rfl)) dX6_tellsOf_53 ⟨Nat.le_of_ble_eq_true rfl, Nat.le_of_ble_eq_true rfl⟩)) (fun rz512 gz511 => ?_)
                clear hPc
                refine lv_i2l hx hb dX6_tellsOf_56 rfl ?_
                refine lv_aload_n hx hb dX6_tellsOf_57 rfl (lv_at hl 2 rfl) ?_
                refine va_get (D := (dC, dI)) (ci := 6) (v := .ref (qL 1)) (C := RX6) (T := TX6) (N := 4) hx hb hts (fun w h => List.mem_cons_of_mem _ (List.mem_append_right _ (List.mem_append_left _ h))) hown hK hP 0 rfl rfl 0 (by decide) (hts (.fieldLink RX6 9 "SagMemory$Slot" "numbers" "[J") (wl_mem 1 rfl)) (fun _ h9 => h9) rfl dX6_tellsOf_58 ?_
                refine lv_iload_n hx hb dX6_tellsOf_61 rfl (lv_at hl 4 rfl) ?_
                refine lv_iconst (v := 2) hx hb dX6_tellsOf_62 (by decide) ?_
                refine lv_iadd hx hb dX6_tellsOf_63 ?_
                refine lv_topi (fun xz513 exz513 => ?_)
                have fxz513 : xz513.toInt = xz343.toInt + (2 : Int) := by rw [exz513]; exact fb_addI (x := xz343) (y := (2 : Int32)) (by show -2147483648 ≤ xz343.toInt + (2 : Int); omega) (by show xz343.toInt + (2 : Int) < 2147483648; omega)
                refine va_lald hx hb hK hP 1 1 rfl rfl (vp_in_iff.mpr ⟨by omega, by omega⟩) dX6_tellsOf_64 ?_
                refine lv_topl (fun xz514 exz514 => ?_)
                refine W.lcmp hx hb dX6_tellsOf_65 ?_
                refine lv_if_eq (tgt := 71) hx hb dX6_tellsOf_66 (by decide) (fun cz515 => ?_) (fun cz515 => ?_)
                · skip
                  rw [lg_cmp_eq] at cz515
                  have zz516 : rz512.toInt = xz514.toInt := by have h9 := zi_eqL.mp cz515; simp only [Int32.toInt_toInt64] at h9; exact h9
                  obtain ⟨xz517, exz517⟩ : ∃ y : Int32, y = xz343 + Int32.ofInt (3) := ⟨_, rfl⟩
                  have fxz517 : xz517.toInt = xz343.toInt + (3) := by rw [exz517]; exact fb_addI (y := Int32.ofInt (3)) (by show -2147483648 ≤ xz343.toInt + (3); omega) (by show xz343.toInt + (3) < 2147483648; omega)
                  refine lv_iinc (v := xz517) (lv' := [(2, .int xz517), (4, .int xz356), (3, .int xz353), (0, .ref (qL 0)), (1, .ref (qY 0))]) hx hb dX6_tellsOf_71 hl (k := 4) rfl exz517.symm (by decide) rfl (fun ls hl => ?_)
                  refine lv_goto (tgt := 2) hx hb dX6_tellsOf_74 (by decide) ?_
                  exact ih2 ls xz517 (by show (2147483647 - xz517.toInt).toNat < n9_2; omega) (by show 0 ≤ xz517.toInt; omega) (by show 0 ≤ xz517.toInt ∧ xz517.toInt ≤ 63; omega) (lv_sub hl [3, 4, 0] rfl)
                · skip
                  rw [lg_cmp_eq] at cz515
                  have zz518 : ¬ rz512.toInt = xz514.toInt := by intro h9; apply cz515; rw [zi_eqL]; simp only [Int32.toInt_toInt64]; exact h9
                  refine lv_iconst (v := 0) hx hb dX6_tellsOf_69 (by decide) ?_
                  rw [hQ]
                  exact W.zret (v := (0 : Int32)) hx hb hr rfl (fun t ht hW => ⟨(0 : Int32), rfl, (by show (0 : Int) = 0 ∨ (0 : Int) = 1; omega), ht⟩) (fun _ h => absurd h List.not_mem_nil) dX6_tellsOf_70
              · skip
                have zz519 : xz353.toInt = (2 : Int) := zi_eq.mp cz500
                refine W.eq (g2 := F0 m 52 ls [.int 2, .ref (sY 2 1)]) (by rw [cz500]) ?_
                refine va_aldq hx hb hK hP 27 4 rfl rfl (by unfold vp_in; decide) dX6_tellsOf_52 ?_
                refine W.eq (g2 := F0 m 53 ls [.ref (sY 2 8)]) rfl ?_
                have hPc := hP.sub (ws' := (List.flatten [(wMem (fun i => sY 2 (i + 8)) k (fun i => (nY 2) (i + 2)) (fun i => (aY 2) (i + 4)))])) [34, 35, 36] rfl
                refine vp_callSi (va_Run.run (va_runV (As := []) (rest := []) ⟨hx, hb, hml, hown, hts⟩ (c_X2_depth l dC dI k (fun i => sY 2 (i + 8)) (fun i => (nY 2) (i + 2)) (fun i => (aY 2) (i + 4)) (fun i => (hnY 2) (i + 2))) (cwV 0 hts (gk_V (wl_mem 12 rfl) (wl_mem 13 rfl) (wl_mem 14 rfl) (wl_mem 15 rfl) (fun w h => List.mem_cons_of_mem _ (List.mem_append_right _ (List.mem_append_right _ (List.mem_append_right _ (List.mem_append_right _ (List.mem_append_right _ (List.mem_append_right _ (List.mem_append_left _ h)))))))) wkg_c_X2_depth) rfl rfl rfl (by decide +kernel) ⟨Nat.le_of_ble_eq_true rfl, Nat.le_of_ble_eq_true rfl⟩) ⟨fun a U g mk q => by obtain ⟨q0, qP, qK⟩ := q; exact ⟨q0, qP, va_K.moved (u := U) (U := U.calling g mk a) (Vm.Alike.refl U.vm) qK⟩, va_recv hK hPc (ci := 2) (q0 := 0) rfl rfl, fun U hU hW => ⟨rfl, by rw [hU]; exact hPc, va_K.moved hW.alike hK⟩⟩ rfl rfl hl.1 rfl (lv_room (Nat.le_of_ble_eq_true rfl)) dX6_tellsOf_53 ⟨Nat.le_of_ble_eq_true rfl, Nat.le_of_ble_eq_true rfl⟩)) (fun rz521 gz520 => ?_)
                clear hPc
                refine lv_i2l hx hb dX6_tellsOf_56 rfl ?_
                refine lv_aload_n hx hb dX6_tellsOf_57 rfl (lv_at hl 2 rfl) ?_
                refine va_get (D := (dC, dI)) (ci := 6) (v := .ref (qL 1)) (C := RX6) (T := TX6) (N := 4) hx hb hts (fun w h => List.mem_cons_of_mem _ (List.mem_append_right _ (List.mem_append_left _ h))) hown hK hP 0 rfl rfl 0 (by decide) (hts (.fieldLink RX6 9 "SagMemory$Slot" "numbers" "[J") (wl_mem 1 rfl)) (fun _ h9 => h9) rfl dX6_tellsOf_58 ?_
                refine lv_iload_n hx hb dX6_tellsOf_61 rfl (lv_at hl 4 rfl) ?_
                refine lv_iconst (v := 2) hx hb dX6_tellsOf_62 (by decide) ?_
                refine lv_iadd hx hb dX6_tellsOf_63 ?_
                refine lv_topi (fun xz522 exz522 => ?_)
                have fxz522 : xz522.toInt = xz343.toInt + (2 : Int) := by rw [exz522]; exact fb_addI (x := xz343) (y := (2 : Int32)) (by show -2147483648 ≤ xz343.toInt + (2 : Int); omega) (by show xz343.toInt + (2 : Int) < 2147483648; omega)
                refine va_lald hx hb hK hP 1 1 rfl rfl (vp_in_iff.mpr ⟨by omega, by omega⟩) dX6_tellsOf_64 ?_
                refine lv_topl (fun xz523 exz523 => ?_)
                refine W.lcmp hx hb dX6_tellsOf_65 ?_
                refine lv_if_eq (tgt := 71) hx hb dX6_tellsOf_66 (by decide) (fun cz524 => ?_) (fun cz524 => ?_)
                · skip
                  rw [lg_cmp_eq] at cz524
                  have zz525 : rz521.toInt = xz523.toInt := by have h9 := zi_eqL.mp cz524; simp only [Int32.toInt_toInt64] at h9; exact h9
                  obtain ⟨xz526, exz526⟩ : ∃ y : Int32, y = xz343 + Int32.ofInt (3) := ⟨_, rfl⟩
                  have fxz526 : xz526.toInt = xz343.toInt + (3) := by rw [exz526]; exact fb_addI (y := Int32.ofInt (3)) (by show -2147483648 ≤ xz343.toInt + (3); omega) (by show xz343.toInt + (3) < 2147483648; omega)
                  refine lv_iinc (v := xz526) (lv' := [(2, .int xz526), (4, .int xz356), (3, .int xz353), (0, .ref (qL 0)), (1, .ref (qY 0))]) hx hb dX6_tellsOf_71 hl (k := 4) rfl exz526.symm (by decide) rfl (fun ls hl => ?_)
                  refine lv_goto (tgt := 2) hx hb dX6_tellsOf_74 (by decide) ?_
                  exact ih2 ls xz526 (by show (2147483647 - xz526.toInt).toNat < n9_2; omega) (by show 0 ≤ xz526.toInt; omega) (by show 0 ≤ xz526.toInt ∧ xz526.toInt ≤ 63; omega) (lv_sub hl [3, 4, 0] rfl)
                · skip
                  rw [lg_cmp_eq] at cz524
                  have zz527 : ¬ rz521.toInt = xz523.toInt := by intro h9; apply cz524; rw [zi_eqL]; simp only [Int32.toInt_toInt64]; exact h9
                  refine lv_iconst (v := 0) hx hb dX6_tellsOf_69 (by decide) ?_
                  rw [hQ]
                  exact W.zret (v := (0 : Int32)) hx hb hr rfl (fun t ht hW => ⟨(0 : Int32), rfl, (by show (0 : Int) = 0 ∨ (0 : Int) = 1; omega), ht⟩) (fun _ h => absurd h List.not_mem_nil) dX6_tellsOf_70
            · skip
              have bz528 := fb_rng xz356
              have zz529 : ¬ xz356.toInt < (0 : Int) := fun h9 => cz388 (zi_lt.mpr h9)
              have zz530 : ¬ (7 : Int) ≤ xz356.toInt := fun h9 => cz389 (zi_le.mpr h9)
              have zz531 : xz356.toInt = (2 : Int) := zi_eq.mp cz390
              refine W.eq (g2 := F0 m 48 ls [.ref (sY 3 0)]) rfl ?_
              refine va_get (D := (dC, dI)) (ci := 7) (v := .ref (sY 3 1)) (C := RX7) (T := TX7) (N := 9) hx hb hts (fun w h => List.mem_cons_of_mem _ (List.mem_append_right _ (List.mem_append_right _ (List.mem_append_right _ (List.mem_append_right _ (List.mem_append_right _ (List.mem_append_left _ h))))))) hown hK hP 37 rfl rfl 0 (by decide) (hts (.fieldLink RX6 61 "SagMemory$State" "memories" "[LSagMemory$Memory;") (wl_mem 11 rfl)) (fun _ h9 => h9) rfl dX6_tellsOf_48 ?_
              refine lv_iload_n hx hb dX6_tellsOf_51 rfl (lv_at hl 1 rfl) ?_
              rcases (show xz353 = 0 ∨ xz353 = 1 ∨ xz353 = 2 by simp only [zi_eq]; show xz353.toInt = 0 ∨ xz353.toInt = 1 ∨ xz353.toInt = 2; omega) with cz532 | cz532 | cz532
              · skip
                have zz533 : xz353.toInt = (0 : Int) := zi_eq.mp cz532
                refine W.eq (g2 := F0 m 52 ls [.int 0, .ref (sY 3 1)]) (by rw [cz532]) ?_
                refine va_aldq hx hb hK hP 38 4 rfl rfl (by unfold vp_in; decide) dX6_tellsOf_52 ?_
                refine W.eq (g2 := F0 m 53 ls [.ref (sY 3 2)]) rfl ?_
                have hPc := hP.sub (ws' := (List.flatten [(wMem (fun i => sY 3 (i + 2)) k (nY 3) (aY 3))])) [39, 40, 41] rfl
                refine vp_callSi (va_Run.run (va_runV (As := []) (rest := []) ⟨hx, hb, hml, hown, hts⟩ (c_X2_depth l dC dI k (fun i => sY 3 (i + 2)) (nY 3) (aY 3) (hnY 3)) (cwV 0 hts (gk_V (wl_mem 12 rfl) (wl_mem 13 rfl) (wl_mem 14 rfl) (wl_mem 15 rfl) (fun w h => List.mem_cons_of_mem _ (List.mem_append_right _ (List.mem_append_right _ (List.mem_append_right _ (List.mem_append_right _ (List.mem_append_right _ (List.mem_append_right _ (List.mem_append_left _ h)))))))) wkg_c_X2_depth) rfl rfl rfl (by decide +kernel) ⟨Nat.le_of_ble_eq_true rfl, Nat.le_of_ble_eq_true rfl⟩) ⟨fun a U g mk q => by obtain ⟨q0, qP, qK⟩ := q; exact ⟨q0, qP, va_K.moved (u := U) (U := U.calling g mk a) (Vm.Alike.refl U.vm) qK⟩, va_recv hK hPc (ci := 2) (q0 := 0) rfl rfl, fun U hU hW => ⟨rfl, by rw [hU]; exact hPc, va_K.moved hW.alike hK⟩⟩ rfl rfl hl.1 rfl (lv_room (Nat.le_of_ble_eq_true rfl)) dX6_tellsOf_53 ⟨Nat.le_of_ble_eq_true rfl, Nat.le_of_ble_eq_true rfl⟩)) (fun rz535 gz534 => ?_)
                clear hPc
                refine lv_i2l hx hb dX6_tellsOf_56 rfl ?_
                refine lv_aload_n hx hb dX6_tellsOf_57 rfl (lv_at hl 2 rfl) ?_
                refine va_get (D := (dC, dI)) (ci := 6) (v := .ref (qL 1)) (C := RX6) (T := TX6) (N := 4) hx hb hts (fun w h => List.mem_cons_of_mem _ (List.mem_append_right _ (List.mem_append_left _ h))) hown hK hP 0 rfl rfl 0 (by decide) (hts (.fieldLink RX6 9 "SagMemory$Slot" "numbers" "[J") (wl_mem 1 rfl)) (fun _ h9 => h9) rfl dX6_tellsOf_58 ?_
                refine lv_iload_n hx hb dX6_tellsOf_61 rfl (lv_at hl 4 rfl) ?_
                refine lv_iconst (v := 2) hx hb dX6_tellsOf_62 (by decide) ?_
                refine lv_iadd hx hb dX6_tellsOf_63 ?_
                refine lv_topi (fun xz536 exz536 => ?_)
                have fxz536 : xz536.toInt = xz343.toInt + (2 : Int) := by rw [exz536]; exact fb_addI (x := xz343) (y := (2 : Int32)) (by show -2147483648 ≤ xz343.toInt + (2 : Int); omega) (by show xz343.toInt + (2 : Int) < 2147483648; omega)
                refine va_lald hx hb hK hP 1 1 rfl rfl (vp_in_iff.mpr ⟨by omega, by omega⟩) dX6_tellsOf_64 ?_
                refine lv_topl (fun xz537 exz537 => ?_)
                refine W.lcmp hx hb dX6_tellsOf_65 ?_
                refine lv_if_eq (tgt := 71) hx hb dX6_tellsOf_66 (by decide) (fun cz538 => ?_) (fun cz538 => ?_)
                · skip
                  rw [lg_cmp_eq] at cz538
                  have zz539 : rz535.toInt = xz537.toInt := by have h9 := zi_eqL.mp cz538; simp only [Int32.toInt_toInt64] at h9; exact h9
                  obtain ⟨xz540, exz540⟩ : ∃ y : Int32, y = xz343 + Int32.ofInt (3) := ⟨_, rfl⟩
                  have fxz540 : xz540.toInt = xz343.toInt + (3) := by rw [exz540]; exact fb_addI (y := Int32.ofInt (3)) (by show -2147483648 ≤ xz343.toInt + (3); omega) (by show xz343.toInt + (3) < 2147483648; omega)
                  refine lv_iinc (v := xz540) (lv' := [(2, .int xz540), (4, .int xz356), (3, .int xz353), (0, .ref (qL 0)), (1, .ref (qY 0))]) hx hb dX6_tellsOf_71 hl (k := 4) rfl exz540.symm (by decide) rfl (fun ls hl => ?_)
                  refine lv_goto (tgt := 2) hx hb dX6_tellsOf_74 (by decide) ?_
                  exact ih2 ls xz540 (by show (2147483647 - xz540.toInt).toNat < n9_2; omega) (by show 0 ≤ xz540.toInt; omega) (by show 0 ≤ xz540.toInt ∧ xz540.toInt ≤ 63; omega) (lv_sub hl [3, 4, 0] rfl)
                · skip
                  rw [lg_cmp_eq] at cz538
                  have zz541 : ¬ rz535.toInt = xz537.toInt := by intro h9; apply cz538; rw [zi_eqL]; simp only [Int32.toInt_toInt64]; exact h9
                  refine lv_iconst (v := 0) hx hb dX6_tellsOf_69 (by decide) ?_
                  rw [hQ]
                  exact W.zret (v := (0 : Int32)) hx hb hr rfl (fun t ht hW => ⟨(0 : Int32), rfl, (by show (0 : Int) = 0 ∨ (0 : Int) = 1; omega), ht⟩) (fun _ h => absurd h List.not_mem_nil) dX6_tellsOf_70
              · skip
                have zz542 : xz353.toInt = (1 : Int) := zi_eq.mp cz532
                refine W.eq (g2 := F0 m 52 ls [.int 1, .ref (sY 3 1)]) (by rw [cz532]) ?_
                refine va_aldq hx hb hK hP 38 4 rfl rfl (by unfold vp_in; decide) dX6_tellsOf_52 ?_
                refine W.eq (g2 := F0 m 53 ls [.ref (sY 3 5)]) rfl ?_
                have hPc := hP.sub (ws' := (List.flatten [(wMem (fun i => sY 3 (i + 5)) k (fun i => (nY 3) (i + 1)) (fun i => (aY 3) (i + 2)))])) [42, 43, 44] rfl
                refine vp_callSi (va_Run.run (va_runV (As := []) (rest := []) ⟨hx, hb, hml, hown, hts⟩ (c_X2_depth l dC dI k (fun i => sY 3 (i + 5)) (fun i => (nY 3) (i + 1)) (fun i => (aY 3) (i + 2)) (fun i => (hnY 3) (i + 1))) (cwV 0 hts (gk_V (wl_mem 12 rfl) (wl_mem 13 rfl) (wl_mem 14 rfl) (wl_mem 15 rfl) (fun w h => List.mem_cons_of_mem _ (List.mem_append_right _ (List.mem_append_right _ (List.mem_append_right _ (List.mem_append_right _ (List.mem_append_right _ (List.mem_append_right _ (List.mem_append_left _ h)))))))) wkg_c_X2_depth) rfl rfl rfl (by decide +kernel) ⟨Nat.le_of_ble_eq_true rfl, Nat.le_of_ble_eq_true rfl⟩) ⟨fun a U g mk q => by obtain ⟨q0, qP, qK⟩ := q; exact ⟨q0, qP, va_K.moved (u := U) (U := U.calling g mk a) (Vm.Alike.refl U.vm) qK⟩, va_recv hK hPc (ci := 2) (q0 := 0) rfl rfl, fun U hU hW => ⟨rfl, by rw [hU]; exact hPc, va_K.moved hW.alike hK⟩⟩ rfl rfl hl.1 rfl (lv_room (Nat.le_of_ble_eq_true rfl)) dX6_tellsOf_53 ⟨Nat.le_of_ble_eq_true rfl, Nat.le_of_ble_eq_true rfl⟩)) (fun rz544 gz543 => ?_)
                clear hPc
                refine lv_i2l hx hb dX6_tellsOf_56 rfl ?_
                refine lv_aload_n hx hb dX6_tellsOf_57 rfl (lv_at hl 2 rfl) ?_
                refine va_get (D := (dC, dI)) (ci := 6) (v := .ref (qL 1)) (C := RX6) (T := TX6) (N := 4) hx hb hts (fun w h => List.mem_cons_of_mem _ (List.mem_append_right _ (List.mem_append_left _ h))) hown hK hP 0 rfl rfl 0 (by decide) (hts (.fieldLink RX6 9 "SagMemory$Slot" "numbers" "[J") (wl_mem 1 rfl)) (fun _ h9 => h9) rfl dX6_tellsOf_58 ?_
                refine lv_iload_n hx hb dX6_tellsOf_61 rfl (lv_at hl 4 rfl) ?_
                refine lv_iconst (v := 2) hx hb dX6_tellsOf_62 (by decide) ?_
                refine lv_iadd hx hb dX6_tellsOf_63 ?_
                refine lv_topi (fun xz545 exz545 => ?_)
                have fxz545 : xz545.toInt = xz343.toInt + (2 : Int) := by rw [exz545]; exact fb_addI (x := xz343) (y := (2 : Int32)) (by show -2147483648 ≤ xz343.toInt + (2 : Int); omega) (by show xz343.toInt + (2 : Int) < 2147483648; omega)
                refine va_lald hx hb hK hP 1 1 rfl rfl (vp_in_iff.mpr ⟨by omega, by omega⟩) dX6_tellsOf_64 ?_
                refine lv_topl (fun xz546 exz546 => ?_)
                refine W.lcmp hx hb dX6_tellsOf_65 ?_
                refine lv_if_eq (tgt := 71) hx hb dX6_tellsOf_66 (by decide) (fun cz547 => ?_) (fun cz547 => ?_)
                · skip
                  rw [lg_cmp_eq] at cz547
                  have zz548 : rz544.toInt = xz546.toInt := by have h9 := zi_eqL.mp cz547; simp only [Int32.toInt_toInt64] at h9; exact h9
                  obtain ⟨xz549, exz549⟩ : ∃ y : Int32, y = xz343 + Int32.ofInt (3) := ⟨_, rfl⟩
                  have fxz549 : xz549.toInt = xz343.toInt + (3) := by rw [exz549]; exact fb_addI (y := Int32.ofInt (3)) (by show -2147483648 ≤ xz343.toInt + (3); omega) (by show xz343.toInt + (3) < 2147483648; omega)
                  refine lv_iinc (v := xz549) (lv' := [(2, .int xz549), (4, .int xz356), (3, .int xz353), (0, .ref (qL 0)), (1, .ref (qY 0))]) hx hb dX6_tellsOf_71 hl (k := 4) rfl exz549.symm (by decide) rfl (fun ls hl => ?_)
                  refine lv_goto (tgt := 2) hx hb dX6_tellsOf_74 (by decide) ?_
                  exact ih2 ls xz549 (by show (2147483647 - xz549.toInt).toNat < n9_2; omega) (by show 0 ≤ xz549.toInt; omega) (by show 0 ≤ xz549.toInt ∧ xz549.toInt ≤ 63; omega) (lv_sub hl [3, 4, 0] rfl)
                · skip
                  rw [lg_cmp_eq] at cz547
                  have zz550 : ¬ rz544.toInt = xz546.toInt := by intro h9; apply cz547; rw [zi_eqL]; simp only [Int32.toInt_toInt64]; exact h9
                  refine lv_iconst (v := 0) hx hb dX6_tellsOf_69 (by decide) ?_
                  rw [hQ]
                  exact W.zret (v := (0 : Int32)) hx hb hr rfl (fun t ht hW => ⟨(0 : Int32), rfl, (by show (0 : Int) = 0 ∨ (0 : Int) = 1; omega), ht⟩) (fun _ h => absurd h List.not_mem_nil) dX6_tellsOf_70
              · skip
                have zz551 : xz353.toInt = (2 : Int) := zi_eq.mp cz532
                refine W.eq (g2 := F0 m 52 ls [.int 2, .ref (sY 3 1)]) (by rw [cz532]) ?_
                refine va_aldq hx hb hK hP 38 4 rfl rfl (by unfold vp_in; decide) dX6_tellsOf_52 ?_
                refine W.eq (g2 := F0 m 53 ls [.ref (sY 3 8)]) rfl ?_
                have hPc := hP.sub (ws' := (List.flatten [(wMem (fun i => sY 3 (i + 8)) k (fun i => (nY 3) (i + 2)) (fun i => (aY 3) (i + 4)))])) [45, 46, 47] rfl
                refine vp_callSi (va_Run.run (va_runV (As := []) (rest := []) ⟨hx, hb, hml, hown, hts⟩ (c_X2_depth l dC dI k (fun i => sY 3 (i + 8)) (fun i => (nY 3) (i + 2)) (fun i => (aY 3) (i + 4)) (fun i => (hnY 3) (i + 2))) (cwV 0 hts (gk_V (wl_mem 12 rfl) (wl_mem 13 rfl) (wl_mem 14 rfl) (wl_mem 15 rfl) (fun w h => List.mem_cons_of_mem _ (List.mem_append_right _ (List.mem_append_right _ (List.mem_append_right _ (List.mem_append_right _ (List.mem_append_right _ (List.mem_append_right _ (List.mem_append_left _ h)))))))) wkg_c_X2_depth) rfl rfl rfl (by decide +kernel) ⟨Nat.le_of_ble_eq_true rfl, Nat.le_of_ble_eq_true rfl⟩) ⟨fun a U g mk q => by obtain ⟨q0, qP, qK⟩ := q; exact ⟨q0, qP, va_K.moved (u := U) (U := U.calling g mk a) (Vm.Alike.refl U.vm) qK⟩, va_recv hK hPc (ci := 2) (q0 := 0) rfl rfl, fun U hU hW => ⟨rfl, by rw [hU]; exact hPc, va_K.moved hW.alike hK⟩⟩ rfl rfl hl.1 rfl (lv_room (Nat.le_of_ble_eq_true rfl)) dX6_tellsOf_53 ⟨Nat.le_of_ble_eq_true rfl, Nat.le_of_ble_eq_true rfl⟩)) (fun rz553 gz552 => ?_)
                clear hPc
                refine lv_i2l hx hb dX6_tellsOf_56 rfl ?_
                refine lv_aload_n hx hb dX6_tellsOf_57 rfl (lv_at hl 2 rfl) ?_
                refine va_get (D := (dC, dI)) (ci := 6) (v := .ref (qL 1)) (C := RX6) (T := TX6) (N := 4) hx hb hts (fun w h => List.mem_cons_of_mem _ (List.mem_append_right _ (List.mem_append_left _ h))) hown hK hP 0 rfl rfl 0 (by decide) (hts (.fieldLink RX6 9 "SagMemory$Slot" "numbers" "[J") (wl_mem 1 rfl)) (fun _ h9 => h9) rfl dX6_tellsOf_58 ?_
                refine lv_iload_n hx hb dX6_tellsOf_61 rfl (lv_at hl 4 rfl) ?_
                refine lv_iconst (v := 2) hx hb dX6_tellsOf_62 (by decide) ?_
                refine lv_iadd hx hb dX6_tellsOf_63 ?_
                refine lv_topi (fun xz554 exz554 => ?_)
                have fxz554 : xz554.toInt = xz343.toInt + (2 : Int) := by rw [exz554]; exact fb_addI (x := xz343) (y := (2 : Int32)) (by show -2147483648 ≤ xz343.toInt + (2 : Int); omega) (by show xz343.toInt + (2 : Int) < 2147483648; omega)
                refine va_lald hx hb hK hP 1 1 rfl rfl (vp_in_iff.mpr ⟨by omega, by omega⟩) dX6_tellsOf_64 ?_
                refine lv_topl (fun xz555 exz555 => ?_)
                refine W.lcmp hx hb dX6_tellsOf_65 ?_
                refine lv_if_eq (tgt := 71) hx hb dX6_tellsOf_66 (by decide) (fun cz556 => ?_) (fun cz556 => ?_)
                · skip
                  rw [lg_cmp_eq] at cz556
                  have zz557 : rz553.toInt = xz555.toInt := by have h9 := zi_eqL.mp cz556; simp only [Int32.toInt_toInt64] at h9; exact h9
                  obtain ⟨xz558, exz558⟩ : ∃ y : Int32, y = xz343 + Int32.ofInt (3) := ⟨_, rfl⟩
                  have fxz558 : xz558.toInt = xz343.toInt + (3) := by rw [exz558]; exact fb_addI (y := Int32.ofInt (3)) (by show -2147483648 ≤ xz343.toInt + (3); omega) (by show xz343.toInt + (3) < 2147483648; omega)
                  refine lv_iinc (v := xz558) (lv' := [(2, .int xz558), (4, .int xz356), (3, .int xz353), (0, .ref (qL 0)), (1, .ref (qY 0))]) hx hb dX6_tellsOf_71 hl (k := 4) rfl exz558.symm (by decide) rfl (fun ls hl => ?_)
                  refine lv_goto (tgt := 2) hx hb dX6_tellsOf_74 (by decide) ?_
                  exact ih2 ls xz558 (by show (2147483647 - xz558.toInt).toNat < n9_2; omega) (by show 0 ≤ xz558.toInt; omega) (by show 0 ≤ xz558.toInt ∧ xz558.toInt ≤ 63; omega) (lv_sub hl [3, 4, 0] rfl)
                · skip
                  rw [lg_cmp_eq] at cz556
                  have zz559 : ¬ rz553.toInt = xz555.toInt := by intro h9; apply cz556; rw [zi_eqL]; simp only [Int32.toInt_toInt64]; exact h9
                  refine lv_iconst (v := 0) hx hb dX6_tellsOf_69 (by decide) ?_
                  rw [hQ]
                  exact W.zret (v := (0 : Int32)) hx hb hr rfl (fun t ht hW => ⟨(0 : Int32), rfl, (by show (0 : Int) = 0 ∨ (0 : Int) = 1; omega), ht⟩) (fun _ h => absurd h List.not_mem_nil) dX6_tellsOf_70
            · skip
              have bz560 := fb_rng xz356
              have zz561 : ¬ xz356.toInt < (0 : Int) := fun h9 => cz391 (zi_lt.mpr h9)
              have zz562 : ¬ (7 : Int) ≤ xz356.toInt := fun h9 => cz392 (zi_le.mpr h9)
              have zz563 : xz356.toInt = (3 : Int) := zi_eq.mp cz393
              refine W.eq (g2 := F0 m 48 ls [.ref (sY 4 0)]) rfl ?_
              refine va_get (D := (dC, dI)) (ci := 7) (v := .ref (sY 4 1)) (C := RX7) (T := TX7) (N := 9) hx hb hts (fun w h => List.mem_cons_of_mem _ (List.mem_append_right _ (List.mem_append_right _ (List.mem_append_right _ (List.mem_append_right _ (List.mem_append_right _ (List.mem_append_left _ h))))))) hown hK hP 48 rfl rfl 0 (by decide) (hts (.fieldLink RX6 61 "SagMemory$State" "memories" "[LSagMemory$Memory;") (wl_mem 11 rfl)) (fun _ h9 => h9) rfl dX6_tellsOf_48 ?_
              refine lv_iload_n hx hb dX6_tellsOf_51 rfl (lv_at hl 1 rfl) ?_
              rcases (show xz353 = 0 ∨ xz353 = 1 ∨ xz353 = 2 by simp only [zi_eq]; show xz353.toInt = 0 ∨ xz353.toInt = 1 ∨ xz353.toInt = 2; omega) with cz564 | cz564 | cz564
              · skip
                have zz565 : xz353.toInt = (0 : Int) := zi_eq.mp cz564
                refine W.eq (g2 := F0 m 52 ls [.int 0, .ref (sY 4 1)]) (by rw [cz564]) ?_
                refine va_aldq hx hb hK hP 49 4 rfl rfl (by unfold vp_in; decide) dX6_tellsOf_52 ?_
                refine W.eq (g2 := F0 m 53 ls [.ref (sY 4 2)]) rfl ?_
                have hPc := hP.sub (ws' := (List.flatten [(wMem (fun i => sY 4 (i + 2)) k (nY 4) (aY 4))])) [50, 51, 52] rfl
                refine vp_callSi (va_Run.run (va_runV (As := []) (rest := []) ⟨hx, hb, hml, hown, hts⟩ (c_X2_depth l dC dI k (fun i => sY 4 (i + 2)) (nY 4) (aY 4) (hnY 4)) (cwV 0 hts (gk_V (wl_mem 12 rfl) (wl_mem 13 rfl) (wl_mem 14 rfl) (wl_mem 15 rfl) (fun w h => List.mem_cons_of_mem _ (List.mem_append_right _ (List.mem_append_right _ (List.mem_append_right _ (List.mem_append_right _ (List.mem_append_right _ (List.mem_append_right _ (List.mem_append_left _ h)))))))) wkg_c_X2_depth) rfl rfl rfl (by decide +kernel) ⟨Nat.le_of_ble_eq_true rfl, Nat.le_of_ble_eq_true rfl⟩) ⟨fun a U g mk q => by obtain ⟨q0, qP, qK⟩ := q; exact ⟨q0, qP, va_K.moved (u := U) (U := U.calling g mk a) (Vm.Alike.refl U.vm) qK⟩, va_recv hK hPc (ci := 2) (q0 := 0) rfl rfl, fun U hU hW => ⟨rfl, by rw [hU]; exact hPc, va_K.moved hW.alike hK⟩⟩ rfl rfl hl.1 rfl (lv_room (Nat.le_of_ble_eq_true rfl)) dX6_tellsOf_53 ⟨Nat.le_of_ble_eq_true rfl, Nat.le_of_ble_eq_true rfl⟩)) (fun rz567 gz566 => ?_)
                clear hPc
                refine lv_i2l hx hb dX6_tellsOf_56 rfl ?_
                refine lv_aload_n hx hb dX6_tellsOf_57 rfl (lv_at hl 2 rfl) ?_
                refine va_get (D := (dC, dI)) (ci := 6) (v := .ref (qL 1)) (C := RX6) (T := TX6) (N := 4) hx hb hts (fun w h => List.mem_cons_of_mem _ (List.mem_append_right _ (List.mem_append_left _ h))) hown hK hP 0 rfl rfl 0 (by decide) (hts (.fieldLink RX6 9 "SagMemory$Slot" "numbers" "[J") (wl_mem 1 rfl)) (fun _ h9 => h9) rfl dX6_tellsOf_58 ?_
                refine lv_iload_n hx hb dX6_tellsOf_61 rfl (lv_at hl 4 rfl) ?_
                refine lv_iconst (v := 2) hx hb dX6_tellsOf_62 (by decide) ?_
                refine lv_iadd hx hb dX6_tellsOf_63 ?_
                refine lv_topi (fun xz568 exz568 => ?_)
                have fxz568 : xz568.toInt = xz343.toInt + (2 : Int) := by rw [exz568]; exact fb_addI (x := xz343) (y := (2 : Int32)) (by show -2147483648 ≤ xz343.toInt + (2 : Int); omega) (by show xz343.toInt + (2 : Int) < 2147483648; omega)
                refine va_lald hx hb hK hP 1 1 rfl rfl (vp_in_iff.mpr ⟨by omega, by omega⟩) dX6_tellsOf_64 ?_
                refine lv_topl (fun xz569 exz569 => ?_)
                refine W.lcmp hx hb dX6_tellsOf_65 ?_
                refine lv_if_eq (tgt := 71) hx hb dX6_tellsOf_66 (by decide) (fun cz570 => ?_) (fun cz570 => ?_)
                · skip
                  rw [lg_cmp_eq] at cz570
                  have zz571 : rz567.toInt = xz569.toInt := by have h9 := zi_eqL.mp cz570; simp only [Int32.toInt_toInt64] at h9; exact h9
                  obtain ⟨xz572, exz572⟩ : ∃ y : Int32, y = xz343 + Int32.ofInt (3) := ⟨_, rfl⟩
                  have fxz572 : xz572.toInt = xz343.toInt + (3) := by rw [exz572]; exact fb_addI (y := Int32.ofInt (3)) (by show -2147483648 ≤ xz343.toInt + (3); omega) (by show xz343.toInt + (3) < 2147483648; omega)
                  refine lv_iinc (v := xz572) (lv' := [(2, .int xz572), (4, .int xz356), (3, .int xz353), (0, .ref (qL 0)), (1, .ref (qY 0))]) hx hb dX6_tellsOf_71 hl (k := 4) rfl exz572.symm (by decide) rfl (fun ls hl => ?_)
                  refine lv_goto (tgt := 2) hx hb dX6_tellsOf_74 (by decide) ?_
                  exact ih2 ls xz572 (by show (2147483647 - xz572.toInt).toNat < n9_2; omega) (by show 0 ≤ xz572.toInt; omega) (by show 0 ≤ xz572.toInt ∧ xz572.toInt ≤ 63; omega) (lv_sub hl [3, 4, 0] rfl)
                · skip
                  rw [lg_cmp_eq] at cz570
                  have zz573 : ¬ rz567.toInt = xz569.toInt := by intro h9; apply cz570; rw [zi_eqL]; simp only [Int32.toInt_toInt64]; exact h9
                  refine lv_iconst (v := 0) hx hb dX6_tellsOf_69 (by decide) ?_
                  rw [hQ]
                  exact W.zret (v := (0 : Int32)) hx hb hr rfl (fun t ht hW => ⟨(0 : Int32), rfl, (by show (0 : Int) = 0 ∨ (0 : Int) = 1; omega), ht⟩) (fun _ h => absurd h List.not_mem_nil) dX6_tellsOf_70
              · skip
                have zz574 : xz353.toInt = (1 : Int) := zi_eq.mp cz564
                refine W.eq (g2 := F0 m 52 ls [.int 1, .ref (sY 4 1)]) (by rw [cz564]) ?_
                refine va_aldq hx hb hK hP 49 4 rfl rfl (by unfold vp_in; decide) dX6_tellsOf_52 ?_
                refine W.eq (g2 := F0 m 53 ls [.ref (sY 4 5)]) rfl ?_
                have hPc := hP.sub (ws' := (List.flatten [(wMem (fun i => sY 4 (i + 5)) k (fun i => (nY 4) (i + 1)) (fun i => (aY 4) (i + 2)))])) [53, 54, 55] rfl
                refine vp_callSi (va_Run.run (va_runV (As := []) (rest := []) ⟨hx, hb, hml, hown, hts⟩ (c_X2_depth l dC dI k (fun i => sY 4 (i + 5)) (fun i => (nY 4) (i + 1)) (fun i => (aY 4) (i + 2)) (fun i => (hnY 4) (i + 1))) (cwV 0 hts (gk_V (wl_mem 12 rfl) (wl_mem 13 rfl) (wl_mem 14 rfl) (wl_mem 15 rfl) (fun w h => List.mem_cons_of_mem _ (List.mem_append_right _ (List.mem_append_right _ (List.mem_append_right _ (List.mem_append_right _ (List.mem_append_right _ (List.mem_append_right _ (List.mem_append_left _ h)))))))) wkg_c_X2_depth) rfl rfl rfl (by decide +kernel) ⟨Nat.le_of_ble_eq_true rfl, Nat.le_of_ble_eq_true rfl⟩) ⟨fun a U g mk q => by obtain ⟨q0, qP, qK⟩ := q; exact ⟨q0, qP, va_K.moved (u := U) (U := U.calling g mk a) (Vm.Alike.refl U.vm) qK⟩, va_recv hK hPc (ci := 2) (q0 := 0) rfl rfl, fun U hU hW => ⟨rfl, by rw [hU]; exact hPc, va_K.moved hW.alike hK⟩⟩ rfl rfl hl.1 rfl (lv_room (Nat.le_of_ble_eq_true rfl)) dX6_tellsOf_53 ⟨Nat.le_of_ble_eq_true rfl, Nat.le_of_ble_eq_true rfl⟩)) (fun rz576 gz575 => ?_)
                clear hPc
                refine lv_i2l hx hb dX6_tellsOf_56 rfl ?_
                refine lv_aload_n hx hb dX6_tellsOf_57 rfl (lv_at hl 2 rfl) ?_
                refine va_get (D := (dC, dI)) (ci := 6) (v := .ref (qL 1)) (C := RX6) (T := TX6) (N := 4) hx hb hts (fun w h => List.mem_cons_of_mem _ (List.mem_append_right _ (List.mem_append_left _ h))) hown hK hP 0 rfl rfl 0 (by decide) (hts (.fieldLink RX6 9 "SagMemory$Slot" "numbers" "[J") (wl_mem 1 rfl)) (fun _ h9 => h9) rfl dX6_tellsOf_58 ?_
                refine lv_iload_n hx hb dX6_tellsOf_61 rfl (lv_at hl 4 rfl) ?_
                refine lv_iconst (v := 2) hx hb dX6_tellsOf_62 (by decide) ?_
                refine lv_iadd hx hb dX6_tellsOf_63 ?_
                refine lv_topi (fun xz577 exz577 => ?_)
                have fxz577 : xz577.toInt = xz343.toInt + (2 : Int) := by rw [exz577]; exact fb_addI (x := xz343) (y := (2 : Int32)) (by show -2147483648 ≤ xz343.toInt + (2 : Int); omega) (by show xz343.toInt + (2 : Int) < 2147483648; omega)
                refine va_lald hx hb hK hP 1 1 rfl rfl (vp_in_iff.mpr ⟨by omega, by omega⟩) dX6_tellsOf_64 ?_
                refine lv_topl (fun xz578 exz578 => ?_)
                refine W.lcmp hx hb dX6_tellsOf_65 ?_
                refine lv_if_eq (tgt := 71) hx hb dX6_tellsOf_66 (by decide) (fun cz579 => ?_) (fun cz579 => ?_)
                · skip
                  rw [lg_cmp_eq] at cz579
                  have zz580 : rz576.toInt = xz578.toInt := by have h9 := zi_eqL.mp cz579; simp only [Int32.toInt_toInt64] at h9; exact h9
                  obtain ⟨xz581, exz581⟩ : ∃ y : Int32, y = xz343 + Int32.ofInt (3) := ⟨_, rfl⟩
                  have fxz581 : xz581.toInt = xz343.toInt + (3) := by rw [exz581]; exact fb_addI (y := Int32.ofInt (3)) (by show -2147483648 ≤ xz343.toInt + (3); omega) (by show xz343.toInt + (3) < 2147483648; omega)
                  refine lv_iinc (v := xz581) (lv' := [(2, .int xz581), (4, .int xz356), (3, .int xz353), (0, .ref (qL 0)), (1, .ref (qY 0))]) hx hb dX6_tellsOf_71 hl (k := 4) rfl exz581.symm (by decide) rfl (fun ls hl => ?_)
                  refine lv_goto (tgt := 2) hx hb dX6_tellsOf_74 (by decide) ?_
                  exact ih2 ls xz581 (by show (2147483647 - xz581.toInt).toNat < n9_2; omega) (by show 0 ≤ xz581.toInt; omega) (by show 0 ≤ xz581.toInt ∧ xz581.toInt ≤ 63; omega) (lv_sub hl [3, 4, 0] rfl)
                · skip
                  rw [lg_cmp_eq] at cz579
                  have zz582 : ¬ rz576.toInt = xz578.toInt := by intro h9; apply cz579; rw [zi_eqL]; simp only [Int32.toInt_toInt64]; exact h9
                  refine lv_iconst (v := 0) hx hb dX6_tellsOf_69 (by decide) ?_
                  rw [hQ]
                  exact W.zret (v := (0 : Int32)) hx hb hr rfl (fun t ht hW => ⟨(0 : Int32), rfl, (by show (0 : Int) = 0 ∨ (0 : Int) = 1; omega), ht⟩) (fun _ h => absurd h List.not_mem_nil) dX6_tellsOf_70
              · skip
                have zz583 : xz353.toInt = (2 : Int) := zi_eq.mp cz564
                refine W.eq (g2 := F0 m 52 ls [.int 2, .ref (sY 4 1)]) (by rw [cz564]) ?_
                refine va_aldq hx hb hK hP 49 4 rfl rfl (by unfold vp_in; decide) dX6_tellsOf_52 ?_
                refine W.eq (g2 := F0 m 53 ls [.ref (sY 4 8)]) rfl ?_
                have hPc := hP.sub (ws' := (List.flatten [(wMem (fun i => sY 4 (i + 8)) k (fun i => (nY 4) (i + 2)) (fun i => (aY 4) (i + 4)))])) [56, 57, 58] rfl
                refine vp_callSi (va_Run.run (va_runV (As := []) (rest := []) ⟨hx, hb, hml, hown, hts⟩ (c_X2_depth l dC dI k (fun i => sY 4 (i + 8)) (fun i => (nY 4) (i + 2)) (fun i => (aY 4) (i + 4)) (fun i => (hnY 4) (i + 2))) (cwV 0 hts (gk_V (wl_mem 12 rfl) (wl_mem 13 rfl) (wl_mem 14 rfl) (wl_mem 15 rfl) (fun w h => List.mem_cons_of_mem _ (List.mem_append_right _ (List.mem_append_right _ (List.mem_append_right _ (List.mem_append_right _ (List.mem_append_right _ (List.mem_append_right _ (List.mem_append_left _ h)))))))) wkg_c_X2_depth) rfl rfl rfl (by decide +kernel) ⟨Nat.le_of_ble_eq_true rfl, Nat.le_of_ble_eq_true rfl⟩) ⟨fun a U g mk q => by obtain ⟨q0, qP, qK⟩ := q; exact ⟨q0, qP, va_K.moved (u := U) (U := U.calling g mk a) (Vm.Alike.refl U.vm) qK⟩, va_recv hK hPc (ci := 2) (q0 := 0) rfl rfl, fun U hU hW => ⟨rfl, by rw [hU]; exact hPc, va_K.moved hW.alike hK⟩⟩ rfl rfl hl.1 rfl (lv_room (Nat.le_of_ble_eq_true rfl)) dX6_tellsOf_53 ⟨Nat.le_of_ble_eq_true rfl, Nat.le_of_ble_eq_true rfl⟩)) (fun rz585 gz584 => ?_)
                clear hPc
                refine lv_i2l hx hb dX6_tellsOf_56 rfl ?_
                refine lv_aload_n hx hb dX6_tellsOf_57 rfl (lv_at hl 2 rfl) ?_
                refine va_get (D := (dC, dI)) (ci := 6) (v := .ref (qL 1)) (C := RX6) (T := TX6) (N := 4) hx hb hts (fun w h => List.mem_cons_of_mem _ (List.mem_append_right _ (List.mem_append_left _ h))) hown hK hP 0 rfl rfl 0 (by decide) (hts (.fieldLink RX6 9 "SagMemory$Slot" "numbers" "[J") (wl_mem 1 rfl)) (fun _ h9 => h9) rfl dX6_tellsOf_58 ?_
                refine lv_iload_n hx hb dX6_tellsOf_61 rfl (lv_at hl 4 rfl) ?_
                refine lv_iconst (v := 2) hx hb dX6_tellsOf_62 (by decide) ?_
                refine lv_iadd hx hb dX6_tellsOf_63 ?_
                refine lv_topi (fun xz586 exz586 => ?_)
                have fxz586 : xz586.toInt = xz343.toInt + (2 : Int) := by rw [exz586]; exact fb_addI (x := xz343) (y := (2 : Int32)) (by show -2147483648 ≤ xz343.toInt + (2 : Int); omega) (by show xz343.toInt + (2 : Int) < 2147483648; omega)
                refine va_lald hx hb hK hP 1 1 rfl rfl (vp_in_iff.mpr ⟨by omega, by omega⟩) dX6_tellsOf_64 ?_
                refine lv_topl (fun xz587 exz587 => ?_)
                refine W.lcmp hx hb dX6_tellsOf_65 ?_
                refine lv_if_eq (tgt := 71) hx hb dX6_tellsOf_66 (by decide) (fun cz588 => ?_) (fun cz588 => ?_)
                · skip
                  rw [lg_cmp_eq] at cz588
                  have zz589 : rz585.toInt = xz587.toInt := by have h9 := zi_eqL.mp cz588; simp only [Int32.toInt_toInt64] at h9; exact h9
                  obtain ⟨xz590, exz590⟩ : ∃ y : Int32, y = xz343 + Int32.ofInt (3) := ⟨_, rfl⟩
                  have fxz590 : xz590.toInt = xz343.toInt + (3) := by rw [exz590]; exact fb_addI (y := Int32.ofInt (3)) (by show -2147483648 ≤ xz343.toInt + (3); omega) (by show xz343.toInt + (3) < 2147483648; omega)
                  refine lv_iinc (v := xz590) (lv' := [(2, .int xz590), (4, .int xz356), (3, .int xz353), (0, .ref (qL 0)), (1, .ref (qY 0))]) hx hb dX6_tellsOf_71 hl (k := 4) rfl exz590.symm (by decide) rfl (fun ls hl => ?_)
                  refine lv_goto (tgt := 2) hx hb dX6_tellsOf_74 (by decide) ?_
                  exact ih2 ls xz590 (by show (2147483647 - xz590.toInt).toNat < n9_2; omega) (by show 0 ≤ xz590.toInt; omega) (by show 0 ≤ xz590.toInt ∧ xz590.toInt ≤ 63; omega) (lv_sub hl [3, 4, 0] rfl)
                · skip
                  rw [lg_cmp_eq] at cz588
                  have zz591 : ¬ rz585.toInt = xz587.toInt := by intro h9; apply cz588; rw [zi_eqL]; simp only [Int32.toInt_toInt64]; exact h9
                  refine lv_iconst (v := 0) hx hb dX6_tellsOf_69 (by decide) ?_
                  rw [hQ]
                  exact W.zret (v := (0 : Int32)) hx hb hr rfl (fun t ht hW => ⟨(0 : Int32), rfl, (by show (0 : Int) = 0 ∨ (0 : Int) = 1; omega), ht⟩) (fun _ h => absurd h List.not_mem_nil) dX6_tellsOf_70
            · skip
              have bz592 := fb_rng xz356
              have zz593 : ¬ xz356.toInt < (0 : Int) := fun h9 => cz394 (zi_lt.mpr h9)
              have zz594 : ¬ (7 : Int) ≤ xz356.toInt := fun h9 => cz395 (zi_le.mpr h9)
              have zz595 : xz356.toInt = (4 : Int) := zi_eq.mp cz396
              refine W.eq (g2 := F0 m 48 ls [.ref (sY 5 0)]) rfl ?_
              refine va_get (D := (dC, dI)) (ci := 7) (v := .ref (sY 5 1)) (C := RX7) (T := TX7) (N := 9) hx hb hts (fun w h => List.mem_cons_of_mem _ (List.mem_append_right _ (List.mem_append_right _ (List.mem_append_right _ (List.mem_append_right _ (List.mem_append_right _ (List.mem_append_left _ h))))))) hown hK hP 59 rfl rfl 0 (by decide) (hts (.fieldLink RX6 61 "SagMemory$State" "memories" "[LSagMemory$Memory;") (wl_mem 11 rfl)) (fun _ h9 => h9) rfl dX6_tellsOf_48 ?_
              refine lv_iload_n hx hb dX6_tellsOf_51 rfl (lv_at hl 1 rfl) ?_
              rcases (show xz353 = 0 ∨ xz353 = 1 ∨ xz353 = 2 by simp only [zi_eq]; show xz353.toInt = 0 ∨ xz353.toInt = 1 ∨ xz353.toInt = 2; omega) with cz596 | cz596 | cz596
              · skip
                have zz597 : xz353.toInt = (0 : Int) := zi_eq.mp cz596
                refine W.eq (g2 := F0 m 52 ls [.int 0, .ref (sY 5 1)]) (by rw [cz596]) ?_
                refine va_aldq hx hb hK hP 60 4 rfl rfl (by unfold vp_in; decide) dX6_tellsOf_52 ?_
                refine W.eq (g2 := F0 m 53 ls [.ref (sY 5 2)]) rfl ?_
                have hPc := hP.sub (ws' := (List.flatten [(wMem (fun i => sY 5 (i + 2)) k (nY 5) (aY 5))])) [61, 62, 63] rfl
                refine vp_callSi (va_Run.run (va_runV (As := []) (rest := []) ⟨hx, hb, hml, hown, hts⟩ (c_X2_depth l dC dI k (fun i => sY 5 (i + 2)) (nY 5) (aY 5) (hnY 5)) (cwV 0 hts (gk_V (wl_mem 12 rfl) (wl_mem 13 rfl) (wl_mem 14 rfl) (wl_mem 15 rfl) (fun w h => List.mem_cons_of_mem _ (List.mem_append_right _ (List.mem_append_right _ (List.mem_append_right _ (List.mem_append_right _ (List.mem_append_right _ (List.mem_append_right _ (List.mem_append_left _ h)))))))) wkg_c_X2_depth) rfl rfl rfl (by decide +kernel) ⟨Nat.le_of_ble_eq_true rfl, Nat.le_of_ble_eq_true rfl⟩) ⟨fun a U g mk q => by obtain ⟨q0, qP, qK⟩ := q; exact ⟨q0, qP, va_K.moved (u := U) (U := U.calling g mk a) (Vm.Alike.refl U.vm) qK⟩, va_recv hK hPc (ci := 2) (q0 := 0) rfl rfl, fun U hU hW => ⟨rfl, by rw [hU]; exact hPc, va_K.moved hW.alike hK⟩⟩ rfl rfl hl.1 rfl (lv_room (Nat.le_of_ble_eq_true rfl)) dX6_tellsOf_53 ⟨Nat.le_of_ble_eq_true rfl, Nat.le_of_ble_eq_true rfl⟩)) (fun rz599 gz598 => ?_)
                clear hPc
                refine lv_i2l hx hb dX6_tellsOf_56 rfl ?_
                refine lv_aload_n hx hb dX6_tellsOf_57 rfl (lv_at hl 2 rfl) ?_
                refine va_get (D := (dC, dI)) (ci := 6) (v := .ref (qL 1)) (C := RX6) (T := TX6) (N := 4) hx hb hts (fun w h => List.mem_cons_of_mem _ (List.mem_append_right _ (List.mem_append_left _ h))) hown hK hP 0 rfl rfl 0 (by decide) (hts (.fieldLink RX6 9 "SagMemory$Slot" "numbers" "[J") (wl_mem 1 rfl)) (fun _ h9 => h9) rfl dX6_tellsOf_58 ?_
                refine lv_iload_n hx hb dX6_tellsOf_61 rfl (lv_at hl 4 rfl) ?_
                refine lv_iconst (v := 2) hx hb dX6_tellsOf_62 (by decide) ?_
                refine lv_iadd hx hb dX6_tellsOf_63 ?_
                refine lv_topi (fun xz600 exz600 => ?_)
                have fxz600 : xz600.toInt = xz343.toInt + (2 : Int) := by rw [exz600]; exact fb_addI (x := xz343) (y := (2 : Int32)) (by show -2147483648 ≤ xz343.toInt + (2 : Int); omega) (by show xz343.toInt + (2 : Int) < 2147483648; omega)
                refine va_lald hx hb hK hP 1 1 rfl rfl (vp_in_iff.mpr ⟨by omega, by omega⟩) dX6_tellsOf_64 ?_
                refine lv_topl (fun xz601 exz601 => ?_)
                refine W.lcmp hx hb dX6_tellsOf_65 ?_
                refine lv_if_eq (tgt := 71) hx hb dX6_tellsOf_66 (by decide) (fun cz602 => ?_) (fun cz602 => ?_)
                · skip
                  rw [lg_cmp_eq] at cz602
                  have zz603 : rz599.toInt = xz601.toInt := by have h9 := zi_eqL.mp cz602; simp only [Int32.toInt_toInt64] at h9; exact h9
                  obtain ⟨xz604, exz604⟩ : ∃ y : Int32, y = xz343 + Int32.ofInt (3) := ⟨_, rfl⟩
                  have fxz604 : xz604.toInt = xz343.toInt + (3) := by rw [exz604]; exact fb_addI (y := Int32.ofInt (3)) (by show -2147483648 ≤ xz343.toInt + (3); omega) (by show xz343.toInt + (3) < 2147483648; omega)
                  refine lv_iinc (v := xz604) (lv' := [(2, .int xz604), (4, .int xz356), (3, .int xz353), (0, .ref (qL 0)), (1, .ref (qY 0))]) hx hb dX6_tellsOf_71 hl (k := 4) rfl exz604.symm (by decide) rfl (fun ls hl => ?_)
                  refine lv_goto (tgt := 2) hx hb dX6_tellsOf_74 (by decide) ?_
                  exact ih2 ls xz604 (by show (2147483647 - xz604.toInt).toNat < n9_2; omega) (by show 0 ≤ xz604.toInt; omega) (by show 0 ≤ xz604.toInt ∧ xz604.toInt ≤ 63; omega) (lv_sub hl [3, 4, 0] rfl)
                · skip
                  rw [lg_cmp_eq] at cz602
                  have zz605 : ¬ rz599.toInt = xz601.toInt := by intro h9; apply cz602; rw [zi_eqL]; simp only [Int32.toInt_toInt64]; exact h9
                  refine lv_iconst (v := 0) hx hb dX6_tellsOf_69 (by decide) ?_
                  rw [hQ]
                  exact W.zret (v := (0 : Int32)) hx hb hr rfl (fun t ht hW => ⟨(0 : Int32), rfl, (by show (0 : Int) = 0 ∨ (0 : Int) = 1; omega), ht⟩) (fun _ h => absurd h List.not_mem_nil) dX6_tellsOf_70
              · skip
                have zz606 : xz353.toInt = (1 : Int) := zi_eq.mp cz596
                refine W.eq (g2 := F0 m 52 ls [.int 1, .ref (sY 5 1)]) (by rw [cz596]) ?_
                refine va_aldq hx hb hK hP 60 4 rfl rfl (by unfold vp_in; decide) dX6_tellsOf_52 ?_
                refine W.eq (g2 := F0 m 53 ls [.ref (sY 5 5)]) rfl ?_
                have hPc := hP.sub (ws' := (List.flatten [(wMem (fun i => sY 5 (i + 5)) k (fun i => (nY 5) (i + 1)) (fun i => (aY 5) (i + 2)))])) [64, 65, 66] rfl
                refine vp_callSi (va_Run.run (va_runV (As := []) (rest := []) ⟨hx, hb, hml, hown, hts⟩ (c_X2_depth l dC dI k (fun i => sY 5 (i + 5)) (fun i => (nY 5) (i + 1)) (fun i => (aY 5) (i + 2)) (fun i => (hnY 5) (i + 1))) (cwV 0 hts (gk_V (wl_mem 12 rfl) (wl_mem 13 rfl) (wl_mem 14 rfl) (wl_mem 15 rfl) (fun w h => List.mem_cons_of_mem _ (List.mem_append_right _ (List.mem_append_right _ (List.mem_append_right _ (List.mem_append_right _ (List.mem_append_right _ (List.mem_append_right _ (List.mem_append_left _ h)))))))) wkg_c_X2_depth) rfl rfl rfl (by decide +kernel) ⟨Nat.le_of_ble_eq_true rfl, Nat.le_of_ble_eq_true rfl⟩) ⟨fun a U g mk q => by obtain ⟨q0, qP, qK⟩ := q; exact ⟨q0, qP, va_K.moved (u := U) (U := U.calling g mk a) (Vm.Alike.refl U.vm) qK⟩, va_recv hK hPc (ci := 2) (q0 := 0) rfl rfl, fun U hU hW => ⟨rfl, by rw [hU]; exact hPc, va_K.moved hW.alike hK⟩⟩ rfl rfl hl.1 rfl (lv_room (Nat.le_of_ble_eq_true rfl)) dX6_tellsOf_53 ⟨Nat.le_of_ble_eq_true rfl, Nat.le_of_ble_eq_true rfl⟩)) (fun rz608 gz607 => ?_)
                clear hPc
                refine lv_i2l hx hb dX6_tellsOf_56 rfl ?_
                refine lv_aload_n hx hb dX6_tellsOf_57 rfl (lv_at hl 2 rfl) ?_
                refine va_get (D := (dC, dI)) (ci := 6) (v := .ref (qL 1)) (C := RX6) (T := TX6) (N := 4) hx hb hts (fun w h => List.mem_cons_of_mem _ (List.mem_append_right _ (List.mem_append_left _ h))) hown hK hP 0 rfl rfl 0 (by decide) (hts (.fieldLink RX6 9 "SagMemory$Slot" "numbers" "[J") (wl_mem 1 rfl)) (fun _ h9 => h9) rfl dX6_tellsOf_58 ?_
                refine lv_iload_n hx hb dX6_tellsOf_61 rfl (lv_at hl 4 rfl) ?_
                refine lv_iconst (v := 2) hx hb dX6_tellsOf_62 (by decide) ?_
                refine lv_iadd hx hb dX6_tellsOf_63 ?_
                refine lv_topi (fun xz609 exz609 => ?_)
                have fxz609 : xz609.toInt = xz343.toInt + (2 : Int) := by rw [exz609]; exact fb_addI (x := xz343) (y := (2 : Int32)) (by show -2147483648 ≤ xz343.toInt + (2 : Int); omega) (by show xz343.toInt + (2 : Int) < 2147483648; omega)
                refine va_lald hx hb hK hP 1 1 rfl rfl (vp_in_iff.mpr ⟨by omega, by omega⟩) dX6_tellsOf_64 ?_
                refine lv_topl (fun xz610 exz610 => ?_)
                refine W.lcmp hx hb dX6_tellsOf_65 ?_
                refine lv_if_eq (tgt := 71) hx hb dX6_tellsOf_66 (by decide) (fun cz611 => ?_) (fun cz611 => ?_)
                · skip
                  rw [lg_cmp_eq] at cz611
                  have zz612 : rz608.toInt = xz610.toInt := by have h9 := zi_eqL.mp cz611; simp only [Int32.toInt_toInt64] at h9; exact h9
                  obtain ⟨xz613, exz613⟩ : ∃ y : Int32, y = xz343 + Int32.ofInt (3) := ⟨_, rfl⟩
                  have fxz613 : xz613.toInt = xz343.toInt + (3) := by rw [exz613]; exact fb_addI (y := Int32.ofInt (3)) (by show -2147483648 ≤ xz343.toInt + (3); omega) (by show xz343.toInt + (3) < 2147483648; omega)
                  refine lv_iinc (v := xz613) (lv' := [(2, .int xz613), (4, .int xz356), (3, .int xz353), (0, .ref (qL 0)), (1, .ref (qY 0))]) hx hb dX6_tellsOf_71 hl (k := 4) rfl exz613.symm (by decide) rfl (fun ls hl => ?_)
                  refine lv_goto (tgt := 2) hx hb dX6_tellsOf_74 (by decide) ?_
                  exact ih2 ls xz613 (by show (2147483647 - xz613.toInt).toNat < n9_2; omega) (by show 0 ≤ xz613.toInt; omega) (by show 0 ≤ xz613.toInt ∧ xz613.toInt ≤ 63; omega) (lv_sub hl [3, 4, 0] rfl)
                · skip
                  rw [lg_cmp_eq] at cz611
                  have zz614 : ¬ rz608.toInt = xz610.toInt := by intro h9; apply cz611; rw [zi_eqL]; simp only [Int32.toInt_toInt64]; exact h9
                  refine lv_iconst (v := 0) hx hb dX6_tellsOf_69 (by decide) ?_
                  rw [hQ]
                  exact W.zret (v := (0 : Int32)) hx hb hr rfl (fun t ht hW => ⟨(0 : Int32), rfl, (by show (0 : Int) = 0 ∨ (0 : Int) = 1; omega), ht⟩) (fun _ h => absurd h List.not_mem_nil) dX6_tellsOf_70
              · skip
                have zz615 : xz353.toInt = (2 : Int) := zi_eq.mp cz596
                refine W.eq (g2 := F0 m 52 ls [.int 2, .ref (sY 5 1)]) (by rw [cz596]) ?_
                refine va_aldq hx hb hK hP 60 4 rfl rfl (by unfold vp_in; decide) dX6_tellsOf_52 ?_
                refine W.eq (g2 := F0 m 53 ls [.ref (sY 5 8)]) rfl ?_
                have hPc := hP.sub (ws' := (List.flatten [(wMem (fun i => sY 5 (i + 8)) k (fun i => (nY 5) (i + 2)) (fun i => (aY 5) (i + 4)))])) [67, 68, 69] rfl
                refine vp_callSi (va_Run.run (va_runV (As := []) (rest := []) ⟨hx, hb, hml, hown, hts⟩ (c_X2_depth l dC dI k (fun i => sY 5 (i + 8)) (fun i => (nY 5) (i + 2)) (fun i => (aY 5) (i + 4)) (fun i => (hnY 5) (i + 2))) (cwV 0 hts (gk_V (wl_mem 12 rfl) (wl_mem 13 rfl) (wl_mem 14 rfl) (wl_mem 15 rfl) (fun w h => List.mem_cons_of_mem _ (List.mem_append_right _ (List.mem_append_right _ (List.mem_append_right _ (List.mem_append_right _ (List.mem_append_right _ (List.mem_append_right _ (List.mem_append_left _ h)))))))) wkg_c_X2_depth) rfl rfl rfl (by decide +kernel) ⟨Nat.le_of_ble_eq_true rfl, Nat.le_of_ble_eq_true rfl⟩) ⟨fun a U g mk q => by obtain ⟨q0, qP, qK⟩ := q; exact ⟨q0, qP, va_K.moved (u := U) (U := U.calling g mk a) (Vm.Alike.refl U.vm) qK⟩, va_recv hK hPc (ci := 2) (q0 := 0) rfl rfl, fun U hU hW => ⟨rfl, by rw [hU]; exact hPc, va_K.moved hW.alike hK⟩⟩ rfl rfl hl.1 rfl (lv_room (Nat.le_of_ble_eq_true rfl)) dX6_tellsOf_53 ⟨Nat.le_of_ble_eq_true rfl, Nat.le_of_ble_eq_true rfl⟩)) (fun rz617 gz616 => ?_)
                clear hPc
                refine lv_i2l hx hb dX6_tellsOf_56 rfl ?_
                refine lv_aload_n hx hb dX6_tellsOf_57 rfl (lv_at hl 2 rfl) ?_
                refine va_get (D := (dC, dI)) (ci := 6) (v := .ref (qL 1)) (C := RX6) (T := TX6) (N := 4) hx hb hts (fun w h => List.mem_cons_of_mem _ (List.mem_append_right _ (List.mem_append_left _ h))) hown hK hP 0 rfl rfl 0 (by decide) (hts (.fieldLink RX6 9 "SagMemory$Slot" "numbers" "[J") (wl_mem 1 rfl)) (fun _ h9 => h9) rfl dX6_tellsOf_58 ?_
                refine lv_iload_n hx hb dX6_tellsOf_61 rfl (lv_at hl 4 rfl) ?_
                refine lv_iconst (v := 2) hx hb dX6_tellsOf_62 (by decide) ?_
                refine lv_iadd hx hb dX6_tellsOf_63 ?_
                refine lv_topi (fun xz618 exz618 => ?_)
                have fxz618 : xz618.toInt = xz343.toInt + (2 : Int) := by rw [exz618]; exact fb_addI (x := xz343) (y := (2 : Int32)) (by show -2147483648 ≤ xz343.toInt + (2 : Int); omega) (by show xz343.toInt + (2 : Int) < 2147483648; omega)
                refine va_lald hx hb hK hP 1 1 rfl rfl (vp_in_iff.mpr ⟨by omega, by omega⟩) dX6_tellsOf_64 ?_
                refine lv_topl (fun xz619 exz619 => ?_)
                refine W.lcmp hx hb dX6_tellsOf_65 ?_
                refine lv_if_eq (tgt := 71) hx hb dX6_tellsOf_66 (by decide) (fun cz620 => ?_) (fun cz620 => ?_)
                · skip
                  rw [lg_cmp_eq] at cz620
                  have zz621 : rz617.toInt = xz619.toInt := by have h9 := zi_eqL.mp cz620; simp only [Int32.toInt_toInt64] at h9; exact h9
                  obtain ⟨xz622, exz622⟩ : ∃ y : Int32, y = xz343 + Int32.ofInt (3) := ⟨_, rfl⟩
                  have fxz622 : xz622.toInt = xz343.toInt + (3) := by rw [exz622]; exact fb_addI (y := Int32.ofInt (3)) (by show -2147483648 ≤ xz343.toInt + (3); omega) (by show xz343.toInt + (3) < 2147483648; omega)
                  refine lv_iinc (v := xz622) (lv' := [(2, .int xz622), (4, .int xz356), (3, .int xz353), (0, .ref (qL 0)), (1, .ref (qY 0))]) hx hb dX6_tellsOf_71 hl (k := 4) rfl exz622.symm (by decide) rfl (fun ls hl => ?_)
                  refine lv_goto (tgt := 2) hx hb dX6_tellsOf_74 (by decide) ?_
                  exact ih2 ls xz622 (by show (2147483647 - xz622.toInt).toNat < n9_2; omega) (by show 0 ≤ xz622.toInt; omega) (by show 0 ≤ xz622.toInt ∧ xz622.toInt ≤ 63; omega) (lv_sub hl [3, 4, 0] rfl)
                · skip
                  rw [lg_cmp_eq] at cz620
                  have zz623 : ¬ rz617.toInt = xz619.toInt := by intro h9; apply cz620; rw [zi_eqL]; simp only [Int32.toInt_toInt64]; exact h9
                  refine lv_iconst (v := 0) hx hb dX6_tellsOf_69 (by decide) ?_
                  rw [hQ]
                  exact W.zret (v := (0 : Int32)) hx hb hr rfl (fun t ht hW => ⟨(0 : Int32), rfl, (by show (0 : Int) = 0 ∨ (0 : Int) = 1; omega), ht⟩) (fun _ h => absurd h List.not_mem_nil) dX6_tellsOf_70
            · skip
              have bz624 := fb_rng xz356
              have zz625 : ¬ xz356.toInt < (0 : Int) := fun h9 => cz397 (zi_lt.mpr h9)
              have zz626 : ¬ (7 : Int) ≤ xz356.toInt := fun h9 => cz398 (zi_le.mpr h9)
              have zz627 : xz356.toInt = (5 : Int) := zi_eq.mp cz399
              refine W.eq (g2 := F0 m 48 ls [.ref (sY 6 0)]) rfl ?_
              refine va_get (D := (dC, dI)) (ci := 7) (v := .ref (sY 6 1)) (C := RX7) (T := TX7) (N := 9) hx hb hts (fun w h => List.mem_cons_of_mem _ (List.mem_append_right _ (List.mem_append_right _ (List.mem_append_right _ (List.mem_append_right _ (List.mem_append_right _ (List.mem_append_left _ h))))))) hown hK hP 70 rfl rfl 0 (by decide) (hts (.fieldLink RX6 61 "SagMemory$State" "memories" "[LSagMemory$Memory;") (wl_mem 11 rfl)) (fun _ h9 => h9) rfl dX6_tellsOf_48 ?_
              refine lv_iload_n hx hb dX6_tellsOf_51 rfl (lv_at hl 1 rfl) ?_
              rcases (show xz353 = 0 ∨ xz353 = 1 ∨ xz353 = 2 by simp only [zi_eq]; show xz353.toInt = 0 ∨ xz353.toInt = 1 ∨ xz353.toInt = 2; omega) with cz628 | cz628 | cz628
              · skip
                have zz629 : xz353.toInt = (0 : Int) := zi_eq.mp cz628
                refine W.eq (g2 := F0 m 52 ls [.int 0, .ref (sY 6 1)]) (by rw [cz628]) ?_
                refine va_aldq hx hb hK hP 71 4 rfl rfl (by unfold vp_in; decide) dX6_tellsOf_52 ?_
                refine W.eq (g2 := F0 m 53 ls [.ref (sY 6 2)]) rfl ?_
                have hPc := hP.sub (ws' := (List.flatten [(wMem (fun i => sY 6 (i + 2)) k (nY 6) (aY 6))])) [72, 73, 74] rfl
                refine vp_callSi (va_Run.run (va_runV (As := []) (rest := []) ⟨hx, hb, hml, hown, hts⟩ (c_X2_depth l dC dI k (fun i => sY 6 (i + 2)) (nY 6) (aY 6) (hnY 6)) (cwV 0 hts (gk_V (wl_mem 12 rfl) (wl_mem 13 rfl) (wl_mem 14 rfl) (wl_mem 15 rfl) (fun w h => List.mem_cons_of_mem _ (List.mem_append_right _ (List.mem_append_right _ (List.mem_append_right _ (List.mem_append_right _ (List.mem_append_right _ (List.mem_append_right _ (List.mem_append_left _ h)))))))) wkg_c_X2_depth) rfl rfl rfl (by decide +kernel) ⟨Nat.le_of_ble_eq_true rfl, Nat.le_of_ble_eq_true rfl⟩) ⟨fun a U g mk q => by obtain ⟨q0, qP, qK⟩ := q; exact ⟨q0, qP, va_K.moved (u := U) (U := U.calling g mk a) (Vm.Alike.refl U.vm) qK⟩, va_recv hK hPc (ci := 2) (q0 := 0) rfl rfl, fun U hU hW => ⟨rfl, by rw [hU]; exact hPc, va_K.moved hW.alike hK⟩⟩ rfl rfl hl.1 rfl (lv_room (Nat.le_of_ble_eq_true rfl)) dX6_tellsOf_53 ⟨Nat.le_of_ble_eq_true rfl, Nat.le_of_ble_eq_true rfl⟩)) (fun rz631 gz630 => ?_)
                clear hPc
                refine lv_i2l hx hb dX6_tellsOf_56 rfl ?_
                refine lv_aload_n hx hb dX6_tellsOf_57 rfl (lv_at hl 2 rfl) ?_
                refine va_get (D := (dC, dI)) (ci := 6) (v := .ref (qL 1)) (C := RX6) (T := TX6) (N := 4) hx hb hts (fun w h => List.mem_cons_of_mem _ (List.mem_append_right _ (List.mem_append_left _ h))) hown hK hP 0 rfl rfl 0 (by decide) (hts (.fieldLink RX6 9 "SagMemory$Slot" "numbers" "[J") (wl_mem 1 rfl)) (fun _ h9 => h9) rfl dX6_tellsOf_58 ?_
                refine lv_iload_n hx hb dX6_tellsOf_61 rfl (lv_at hl 4 rfl) ?_
                refine lv_iconst (v := 2) hx hb dX6_tellsOf_62 (by decide) ?_
                refine lv_iadd hx hb dX6_tellsOf_63 ?_
                refine lv_topi (fun xz632 exz632 => ?_)
                have fxz632 : xz632.toInt = xz343.toInt + (2 : Int) := by rw [exz632]; exact fb_addI (x := xz343) (y := (2 : Int32)) (by show -2147483648 ≤ xz343.toInt + (2 : Int); omega) (by show xz343.toInt + (2 : Int) < 2147483648; omega)
                refine va_lald hx hb hK hP 1 1 rfl rfl (vp_in_iff.mpr ⟨by omega, by omega⟩) dX6_tellsOf_64 ?_
                refine lv_topl (fun xz633 exz633 => ?_)
                refine W.lcmp hx hb dX6_tellsOf_65 ?_
                refine lv_if_eq (tgt := 71) hx hb dX6_tellsOf_66 (by decide) (fun cz634 => ?_) (fun cz634 => ?_)
                · skip
                  rw [lg_cmp_eq] at cz634
                  have zz635 : rz631.toInt = xz633.toInt := by have h9 := zi_eqL.mp cz634; simp only [Int32.toInt_toInt64] at h9; exact h9
                  obtain ⟨xz636, exz636⟩ : ∃ y : Int32, y = xz343 + Int32.ofInt (3) := ⟨_, rfl⟩
                  have fxz636 : xz636.toInt = xz343.toInt + (3) := by rw [exz636]; exact fb_addI (y := Int32.ofInt (3)) (by show -2147483648 ≤ xz343.toInt + (3); omega) (by show xz343.toInt + (3) < 2147483648; omega)
                  refine lv_iinc (v := xz636) (lv' := [(2, .int xz636), (4, .int xz356), (3, .int xz353), (0, .ref (qL 0)), (1, .ref (qY 0))]) hx hb dX6_tellsOf_71 hl (k := 4) rfl exz636.symm (by decide) rfl (fun ls hl => ?_)
                  refine lv_goto (tgt := 2) hx hb dX6_tellsOf_74 (by decide) ?_
                  exact ih2 ls xz636 (by show (2147483647 - xz636.toInt).toNat < n9_2; omega) (by show 0 ≤ xz636.toInt; omega) (by show 0 ≤ xz636.toInt ∧ xz636.toInt ≤ 63; omega) (lv_sub hl [3, 4, 0] rfl)
                · skip
                  rw [lg_cmp_eq] at cz634
                  have zz637 : ¬ rz631.toInt = xz633.toInt := by intro h9; apply cz634; rw [zi_eqL]; simp only [Int32.toInt_toInt64]; exact h9
                  refine lv_iconst (v := 0) hx hb dX6_tellsOf_69 (by decide) ?_
                  rw [hQ]
                  exact W.zret (v := (0 : Int32)) hx hb hr rfl (fun t ht hW => ⟨(0 : Int32), rfl, (by show (0 : Int) = 0 ∨ (0 : Int) = 1; omega), ht⟩) (fun _ h => absurd h List.not_mem_nil) dX6_tellsOf_70
              · skip
                have zz638 : xz353.toInt = (1 : Int) := zi_eq.mp cz628
                refine W.eq (g2 := F0 m 52 ls [.int 1, .ref (sY 6 1)]) (by rw [cz628]) ?_
                refine va_aldq hx hb hK hP 71 4 rfl rfl (by unfold vp_in; decide) dX6_tellsOf_52 ?_
                refine W.eq (g2 := F0 m 53 ls [.ref (sY 6 5)]) rfl ?_
                have hPc := hP.sub (ws' := (List.flatten [(wMem (fun i => sY 6 (i + 5)) k (fun i => (nY 6) (i + 1)) (fun i => (aY 6) (i + 2)))])) [75, 76, 77] rfl
                refine vp_callSi (va_Run.run (va_runV (As := []) (rest := []) ⟨hx, hb, hml, hown, hts⟩ (c_X2_depth l dC dI k (fun i => sY 6 (i + 5)) (fun i => (nY 6) (i + 1)) (fun i => (aY 6) (i + 2)) (fun i => (hnY 6) (i + 1))) (cwV 0 hts (gk_V (wl_mem 12 rfl) (wl_mem 13 rfl) (wl_mem 14 rfl) (wl_mem 15 rfl) (fun w h => List.mem_cons_of_mem _ (List.mem_append_right _ (List.mem_append_right _ (List.mem_append_right _ (List.mem_append_right _ (List.mem_append_right _ (List.mem_append_right _ (List.mem_append_left _ h)))))))) wkg_c_X2_depth) rfl rfl rfl (by decide +kernel) ⟨Nat.le_of_ble_eq_true rfl, Nat.le_of_ble_eq_true rfl⟩) ⟨fun a U g mk q => by obtain ⟨q0, qP, qK⟩ := q; exact ⟨q0, qP, va_K.moved (u := U) (U := U.calling g mk a) (Vm.Alike.refl U.vm) qK⟩, va_recv hK hPc (ci := 2) (q0 := 0) rfl rfl, fun U hU hW => ⟨rfl, by rw [hU]; exact hPc, va_K.moved hW.alike hK⟩⟩ rfl rfl hl.1 rfl (lv_room (Nat.le_of_ble_eq_true rfl)) dX6_tellsOf_53 ⟨Nat.le_of_ble_eq_true rfl, Nat.le_of_ble_eq_true rfl⟩)) (fun rz640 gz639 => ?_)
                clear hPc
                refine lv_i2l hx hb dX6_tellsOf_56 rfl ?_
                refine lv_aload_n hx hb dX6_tellsOf_57 rfl (lv_at hl 2 rfl) ?_
                refine va_get (D := (dC, dI)) (ci := 6) (v := .ref (qL 1)) (C := RX6) (T := TX6) (N := 4) hx hb hts (fun w h => List.mem_cons_of_mem _ (List.mem_append_right _ (List.mem_append_left _ h))) hown hK hP 0 rfl rfl 0 (by decide) (hts (.fieldLink RX6 9 "SagMemory$Slot" "numbers" "[J") (wl_mem 1 rfl)) (fun _ h9 => h9) rfl dX6_tellsOf_58 ?_
                refine lv_iload_n hx hb dX6_tellsOf_61 rfl (lv_at hl 4 rfl) ?_
                refine lv_iconst (v := 2) hx hb dX6_tellsOf_62 (by decide) ?_
                refine lv_iadd hx hb dX6_tellsOf_63 ?_
                refine lv_topi (fun xz641 exz641 => ?_)
                have fxz641 : xz641.toInt = xz343.toInt + (2 : Int) := by rw [exz641]; exact fb_addI (x := xz343) (y := (2 : Int32)) (by show -2147483648 ≤ xz343.toInt + (2 : Int); omega) (by show xz343.toInt + (2 : Int) < 2147483648; omega)
                refine va_lald hx hb hK hP 1 1 rfl rfl (vp_in_iff.mpr ⟨by omega, by omega⟩) dX6_tellsOf_64 ?_
                refine lv_topl (fun xz642 exz642 => ?_)
                refine W.lcmp hx hb dX6_tellsOf_65 ?_
                refine lv_if_eq (tgt := 71) hx hb dX6_tellsOf_66 (by decide) (fun cz643 => ?_) (fun cz643 => ?_)
                · skip
                  rw [lg_cmp_eq] at cz643
                  have zz644 : rz640.toInt = xz642.toInt := by have h9 := zi_eqL.mp cz643; simp only [Int32.toInt_toInt64] at h9; exact h9
                  obtain ⟨xz645, exz645⟩ : ∃ y : Int32, y = xz343 + Int32.ofInt (3) := ⟨_, rfl⟩
                  have fxz645 : xz645.toInt = xz343.toInt + (3) := by rw [exz645]; exact fb_addI (y := Int32.ofInt (3)) (by show -2147483648 ≤ xz343.toInt + (3); omega) (by show xz343.toInt + (3) < 2147483648; omega)
                  refine lv_iinc (v := xz645) (lv' := [(2, .int xz645), (4, .int xz356), (3, .int xz353), (0, .ref (qL 0)), (1, .ref (qY 0))]) hx hb dX6_tellsOf_71 hl (k := 4) rfl exz645.symm (by decide) rfl (fun ls hl => ?_)
                  refine lv_goto (tgt := 2) hx hb dX6_tellsOf_74 (by decide) ?_
                  exact ih2 ls xz645 (by show (2147483647 - xz645.toInt).toNat < n9_2; omega) (by show 0 ≤ xz645.toInt; omega) (by show 0 ≤ xz645.toInt ∧ xz645.toInt ≤ 63; omega) (lv_sub hl [3, 4, 0] rfl)
                · skip
                  rw [lg_cmp_eq] at cz643
                  have zz646 : ¬ rz640.toInt = xz642.toInt := by intro h9; apply cz643; rw [zi_eqL]; simp only [Int32.toInt_toInt64]; exact h9
                  refine lv_iconst (v := 0) hx hb dX6_tellsOf_69 (by decide) ?_
                  rw [hQ]
                  exact W.zret (v := (0 : Int32)) hx hb hr rfl (fun t ht hW => ⟨(0 : Int32), rfl, (by show (0 : Int) = 0 ∨ (0 : Int) = 1; omega), ht⟩) (fun _ h => absurd h List.not_mem_nil) dX6_tellsOf_70
              · skip
                have zz647 : xz353.toInt = (2 : Int) := zi_eq.mp cz628
                refine W.eq (g2 := F0 m 52 ls [.int 2, .ref (sY 6 1)]) (by rw [cz628]) ?_
                refine va_aldq hx hb hK hP 71 4 rfl rfl (by unfold vp_in; decide) dX6_tellsOf_52 ?_
                refine W.eq (g2 := F0 m 53 ls [.ref (sY 6 8)]) rfl ?_
                have hPc := hP.sub (ws' := (List.flatten [(wMem (fun i => sY 6 (i + 8)) k (fun i => (nY 6) (i + 2)) (fun i => (aY 6) (i + 4)))])) [78, 79, 80] rfl
                refine vp_callSi (va_Run.run (va_runV (As := []) (rest := []) ⟨hx, hb, hml, hown, hts⟩ (c_X2_depth l dC dI k (fun i => sY 6 (i + 8)) (fun i => (nY 6) (i + 2)) (fun i => (aY 6) (i + 4)) (fun i => (hnY 6) (i + 2))) (cwV 0 hts (gk_V (wl_mem 12 rfl) (wl_mem 13 rfl) (wl_mem 14 rfl) (wl_mem 15 rfl) (fun w h => List.mem_cons_of_mem _ (List.mem_append_right _ (List.mem_append_right _ (List.mem_append_right _ (List.mem_append_right _ (List.mem_append_right _ (List.mem_append_right _ (List.mem_append_left _ h)))))))) wkg_c_X2_depth) rfl rfl rfl (by decide +kernel) ⟨Nat.le_of_ble_eq_true rfl, Nat.le_of_ble_eq_true rfl⟩) ⟨fun a U g mk q => by obtain ⟨q0, qP, qK⟩ := q; exact ⟨q0, qP, va_K.moved (u := U) (U := U.calling g mk a) (Vm.Alike.refl U.vm) qK⟩, va_recv hK hPc (ci := 2) (q0 := 0) rfl rfl, fun U hU hW => ⟨rfl, by rw [hU]; exact hPc, va_K.moved hW.alike hK⟩⟩ rfl rfl hl.1 rfl (lv_room (Nat.le_of_ble_eq_true rfl)) dX6_tellsOf_53 ⟨Nat.le_of_ble_eq_true rfl, Nat.le_of_ble_eq_true rfl⟩)) (fun rz649 gz648 => ?_)
                clear hPc
                refine lv_i2l hx hb dX6_tellsOf_56 rfl ?_
                refine lv_aload_n hx hb dX6_tellsOf_57 rfl (lv_at hl 2 rfl) ?_
                refine va_get (D := (dC, dI)) (ci := 6) (v := .ref (qL 1)) (C := RX6) (T := TX6) (N := 4) hx hb hts (fun w h => List.mem_cons_of_mem _ (List.mem_append_right _ (List.mem_append_left _ h))) hown hK hP 0 rfl rfl 0 (by decide) (hts (.fieldLink RX6 9 "SagMemory$Slot" "numbers" "[J") (wl_mem 1 rfl)) (fun _ h9 => h9) rfl dX6_tellsOf_58 ?_
                refine lv_iload_n hx hb dX6_tellsOf_61 rfl (lv_at hl 4 rfl) ?_
                refine lv_iconst (v := 2) hx hb dX6_tellsOf_62 (by decide) ?_
                refine lv_iadd hx hb dX6_tellsOf_63 ?_
                refine lv_topi (fun xz650 exz650 => ?_)
                have fxz650 : xz650.toInt = xz343.toInt + (2 : Int) := by rw [exz650]; exact fb_addI (x := xz343) (y := (2 : Int32)) (by show -2147483648 ≤ xz343.toInt + (2 : Int); omega) (by show xz343.toInt + (2 : Int) < 2147483648; omega)
                refine va_lald hx hb hK hP 1 1 rfl rfl (vp_in_iff.mpr ⟨by omega, by omega⟩) dX6_tellsOf_64 ?_
                refine lv_topl (fun xz651 exz651 => ?_)
                refine W.lcmp hx hb dX6_tellsOf_65 ?_
                refine lv_if_eq (tgt := 71) hx hb dX6_tellsOf_66 (by decide) (fun cz652 => ?_) (fun cz652 => ?_)
                · skip
                  rw [lg_cmp_eq] at cz652
                  have zz653 : rz649.toInt = xz651.toInt := by have h9 := zi_eqL.mp cz652; simp only [Int32.toInt_toInt64] at h9; exact h9
                  obtain ⟨xz654, exz654⟩ : ∃ y : Int32, y = xz343 + Int32.ofInt (3) := ⟨_, rfl⟩
                  have fxz654 : xz654.toInt = xz343.toInt + (3) := by rw [exz654]; exact fb_addI (y := Int32.ofInt (3)) (by show -2147483648 ≤ xz343.toInt + (3); omega) (by show xz343.toInt + (3) < 2147483648; omega)
                  refine lv_iinc (v := xz654) (lv' := [(2, .int xz654), (4, .int xz356), (3, .int xz353), (0, .ref (qL 0)), (1, .ref (qY 0))]) hx hb dX6_tellsOf_71 hl (k := 4) rfl exz654.symm (by decide) rfl (fun ls hl => ?_)
                  refine lv_goto (tgt := 2) hx hb dX6_tellsOf_74 (by decide) ?_
                  exact ih2 ls xz654 (by show (2147483647 - xz654.toInt).toNat < n9_2; omega) (by show 0 ≤ xz654.toInt; omega) (by show 0 ≤ xz654.toInt ∧ xz654.toInt ≤ 63; omega) (lv_sub hl [3, 4, 0] rfl)
                · skip
                  rw [lg_cmp_eq] at cz652
                  have zz655 : ¬ rz649.toInt = xz651.toInt := by intro h9; apply cz652; rw [zi_eqL]; simp only [Int32.toInt_toInt64]; exact h9
                  refine lv_iconst (v := 0) hx hb dX6_tellsOf_69 (by decide) ?_
                  rw [hQ]
                  exact W.zret (v := (0 : Int32)) hx hb hr rfl (fun t ht hW => ⟨(0 : Int32), rfl, (by show (0 : Int) = 0 ∨ (0 : Int) = 1; omega), ht⟩) (fun _ h => absurd h List.not_mem_nil) dX6_tellsOf_70
            · skip
              have bz656 := fb_rng xz356
              have zz657 : ¬ xz356.toInt < (0 : Int) := fun h9 => cz400 (zi_lt.mpr h9)
              have zz658 : ¬ (7 : Int) ≤ xz356.toInt := fun h9 => cz401 (zi_le.mpr h9)
              have zz659 : xz356.toInt = (6 : Int) := zi_eq.mp cz402
              refine W.eq (g2 := F0 m 48 ls [.ref (sY 7 0)]) rfl ?_
              refine va_get (D := (dC, dI)) (ci := 7) (v := .ref (sY 7 1)) (C := RX7) (T := TX7) (N := 9) hx hb hts (fun w h => List.mem_cons_of_mem _ (List.mem_append_right _ (List.mem_append_right _ (List.mem_append_right _ (List.mem_append_right _ (List.mem_append_right _ (List.mem_append_left _ h))))))) hown hK hP 81 rfl rfl 0 (by decide) (hts (.fieldLink RX6 61 "SagMemory$State" "memories" "[LSagMemory$Memory;") (wl_mem 11 rfl)) (fun _ h9 => h9) rfl dX6_tellsOf_48 ?_
              refine lv_iload_n hx hb dX6_tellsOf_51 rfl (lv_at hl 1 rfl) ?_
              rcases (show xz353 = 0 ∨ xz353 = 1 ∨ xz353 = 2 by simp only [zi_eq]; show xz353.toInt = 0 ∨ xz353.toInt = 1 ∨ xz353.toInt = 2; omega) with cz660 | cz660 | cz660
              · skip
                have zz661 : xz353.toInt = (0 : Int) := zi_eq.mp cz660
                refine W.eq (g2 := F0 m 52 ls [.int 0, .ref (sY 7 1)]) (by rw [cz660]) ?_
                refine va_aldq hx hb hK hP 82 4 rfl rfl (by unfold vp_in; decide) dX6_tellsOf_52 ?_
                refine W.eq (g2 := F0 m 53 ls [.ref (sY 7 2)]) rfl ?_
                have hPc := hP.sub (ws' := (List.flatten [(wMem (fun i => sY 7 (i + 2)) k (nY 7) (aY 7))])) [83, 84, 85] rfl
                refine vp_callSi (va_Run.run (va_runV (As := []) (rest := []) ⟨hx, hb, hml, hown, hts⟩ (c_X2_depth l dC dI k (fun i => sY 7 (i + 2)) (nY 7) (aY 7) (hnY 7)) (cwV 0 hts (gk_V (wl_mem 12 rfl) (wl_mem 13 rfl) (wl_mem 14 rfl) (wl_mem 15 rfl) (fun w h => List.mem_cons_of_mem _ (List.mem_append_right _ (List.mem_append_right _ (List.mem_append_right _ (List.mem_append_right _ (List.mem_append_right _ (List.mem_append_right _ (List.mem_append_left _ h)))))))) wkg_c_X2_depth) rfl rfl rfl (by decide +kernel) ⟨Nat.le_of_ble_eq_true rfl, Nat.le_of_ble_eq_true rfl⟩) ⟨fun a U g mk q => by obtain ⟨q0, qP, qK⟩ := q; exact ⟨q0, qP, va_K.moved (u := U) (U := U.calling g mk a) (Vm.Alike.refl U.vm) qK⟩, va_recv hK hPc (ci := 2) (q0 := 0) rfl rfl, fun U hU hW => ⟨rfl, by rw [hU]; exact hPc, va_K.moved hW.alike hK⟩⟩ rfl rfl hl.1 rfl (lv_room (Nat.le_of_ble_eq_true rfl)) dX6_tellsOf_53 ⟨Nat.le_of_ble_eq_true rfl, Nat.le_of_ble_eq_true rfl⟩)) (fun rz663 gz662 => ?_)
                clear hPc
                refine lv_i2l hx hb dX6_tellsOf_56 rfl ?_
                refine lv_aload_n hx hb dX6_tellsOf_57 rfl (lv_at hl 2 rfl) ?_
                refine va_get (D := (dC, dI)) (ci := 6) (v := .ref (qL 1)) (C := RX6) (T := TX6) (N := 4) hx hb hts (fun w h => List.mem_cons_of_mem _ (List.mem_append_right _ (List.mem_append_left _ h))) hown hK hP 0 rfl rfl 0 (by decide) (hts (.fieldLink RX6 9 "SagMemory$Slot" "numbers" "[J") (wl_mem 1 rfl)) (fun _ h9 => h9) rfl dX6_tellsOf_58 ?_
                refine lv_iload_n hx hb dX6_tellsOf_61 rfl (lv_at hl 4 rfl) ?_
                refine lv_iconst (v := 2) hx hb dX6_tellsOf_62 (by decide) ?_
                refine lv_iadd hx hb dX6_tellsOf_63 ?_
                refine lv_topi (fun xz664 exz664 => ?_)
                have fxz664 : xz664.toInt = xz343.toInt + (2 : Int) := by rw [exz664]; exact fb_addI (x := xz343) (y := (2 : Int32)) (by show -2147483648 ≤ xz343.toInt + (2 : Int); omega) (by show xz343.toInt + (2 : Int) < 2147483648; omega)
                refine va_lald hx hb hK hP 1 1 rfl rfl (vp_in_iff.mpr ⟨by omega, by omega⟩) dX6_tellsOf_64 ?_
                refine lv_topl (fun xz665 exz665 => ?_)
                refine W.lcmp hx hb dX6_tellsOf_65 ?_
                refine lv_if_eq (tgt := 71) hx hb dX6_tellsOf_66 (by decide) (fun cz666 => ?_) (fun cz666 => ?_)
                · skip
                  rw [lg_cmp_eq] at cz666
                  have zz667 : rz663.toInt = xz665.toInt := by have h9 := zi_eqL.mp cz666; simp only [Int32.toInt_toInt64] at h9; exact h9
                  obtain ⟨xz668, exz668⟩ : ∃ y : Int32, y = xz343 + Int32.ofInt (3) := ⟨_, rfl⟩
                  have fxz668 : xz668.toInt = xz343.toInt + (3) := by rw [exz668]; exact fb_addI (y := Int32.ofInt (3)) (by show -2147483648 ≤ xz343.toInt + (3); omega) (by show xz343.toInt + (3) < 2147483648; omega)
                  refine lv_iinc (v := xz668) (lv' := [(2, .int xz668), (4, .int xz356), (3, .int xz353), (0, .ref (qL 0)), (1, .ref (qY 0))]) hx hb dX6_tellsOf_71 hl (k := 4) rfl exz668.symm (by decide) rfl (fun ls hl => ?_)
                  refine lv_goto (tgt := 2) hx hb dX6_tellsOf_74 (by decide) ?_
                  exact ih2 ls xz668 (by show (2147483647 - xz668.toInt).toNat < n9_2; omega) (by show 0 ≤ xz668.toInt; omega) (by show 0 ≤ xz668.toInt ∧ xz668.toInt ≤ 63; omega) (lv_sub hl [3, 4, 0] rfl)
                · skip
                  rw [lg_cmp_eq] at cz666
                  have zz669 : ¬ rz663.toInt = xz665.toInt := by intro h9; apply cz666; rw [zi_eqL]; simp only [Int32.toInt_toInt64]; exact h9
                  refine lv_iconst (v := 0) hx hb dX6_tellsOf_69 (by decide) ?_
                  rw [hQ]
                  exact W.zret (v := (0 : Int32)) hx hb hr rfl (fun t ht hW => ⟨(0 : Int32), rfl, (by show (0 : Int) = 0 ∨ (0 : Int) = 1; omega), ht⟩) (fun _ h => absurd h List.not_mem_nil) dX6_tellsOf_70
              · skip
                have zz670 : xz353.toInt = (1 : Int) := zi_eq.mp cz660
                refine W.eq (g2 := F0 m 52 ls [.int 1, .ref (sY 7 1)]) (by rw [cz660]) ?_
                refine va_aldq hx hb hK hP 82 4 rfl rfl (by unfold vp_in; decide) dX6_tellsOf_52 ?_
                refine W.eq (g2 := F0 m 53 ls [.ref (sY 7 5)]) rfl ?_
                have hPc := hP.sub (ws' := (List.flatten [(wMem (fun i => sY 7 (i + 5)) k (fun i => (nY 7) (i + 1)) (fun i => (aY 7) (i + 2)))])) [86, 87, 88] rfl
                refine vp_callSi (va_Run.run (va_runV (As := []) (rest := []) ⟨hx, hb, hml, hown, hts⟩ (c_X2_depth l dC dI k (fun i => sY 7 (i + 5)) (fun i => (nY 7) (i + 1)) (fun i => (aY 7) (i + 2)) (fun i => (hnY 7) (i + 1))) (cwV 0 hts (gk_V (wl_mem 12 rfl) (wl_mem 13 rfl) (wl_mem 14 rfl) (wl_mem 15 rfl) (fun w h => List.mem_cons_of_mem _ (List.mem_append_right _ (List.mem_append_right _ (List.mem_append_right _ (List.mem_append_right _ (List.mem_append_right _ (List.mem_append_right _ (List.mem_append_left _ h)))))))) wkg_c_X2_depth) rfl rfl rfl (by decide +kernel) ⟨Nat.le_of_ble_eq_true rfl, Nat.le_of_ble_eq_true rfl⟩) ⟨fun a U g mk q => by obtain ⟨q0, qP, qK⟩ := q; exact ⟨q0, qP, va_K.moved (u := U) (U := U.calling g mk a) (Vm.Alike.refl U.vm) qK⟩, va_recv hK hPc (ci := 2) (q0 := 0) rfl rfl, fun U hU hW => ⟨rfl, by rw [hU]; exact hPc, va_K.moved hW.alike hK⟩⟩ rfl rfl hl.1 rfl (lv_room (Nat.le_of_ble_eq_true rfl)) dX6_tellsOf_53 ⟨Nat.le_of_ble_eq_true rfl, Nat.le_of_ble_eq_true rfl⟩)) (fun rz672 gz671 => ?_)
                clear hPc
                refine lv_i2l hx hb dX6_tellsOf_56 rfl ?_
                refine lv_aload_n hx hb dX6_tellsOf_57 rfl (lv_at hl 2 rfl) ?_
                refine va_get (D := (dC, dI)) (ci := 6) (v := .ref (qL 1)) (C := RX6) (T := TX6) (N := 4) hx hb hts (fun w h => List.mem_cons_of_mem _ (List.mem_append_right _ (List.mem_append_left _ h))) hown hK hP 0 rfl rfl 0 (by decide) (hts (.fieldLink RX6 9 "SagMemory$Slot" "numbers" "[J") (wl_mem 1 rfl)) (fun _ h9 => h9) rfl dX6_tellsOf_58 ?_
                refine lv_iload_n hx hb dX6_tellsOf_61 rfl (lv_at hl 4 rfl) ?_
                refine lv_iconst (v := 2) hx hb dX6_tellsOf_62 (by decide) ?_
                refine lv_iadd hx hb dX6_tellsOf_63 ?_
                refine lv_topi (fun xz673 exz673 => ?_)
                have fxz673 : xz673.toInt = xz343.toInt + (2 : Int) := by rw [exz673]; exact fb_addI (x := xz343) (y := (2 : Int32)) (by show -2147483648 ≤ xz343.toInt + (2 : Int); omega) (by show xz343.toInt + (2 : Int) < 2147483648; omega)
                refine va_lald hx hb hK hP 1 1 rfl rfl (vp_in_iff.mpr ⟨by omega, by omega⟩) dX6_tellsOf_64 ?_
                refine lv_topl (fun xz674 exz674 => ?_)
                refine W.lcmp hx hb dX6_tellsOf_65 ?_
                refine lv_if_eq (tgt := 71) hx hb dX6_tellsOf_66 (by decide) (fun cz675 => ?_) (fun cz675 => ?_)
                · skip
                  rw [lg_cmp_eq] at cz675
                  have zz676 : rz672.toInt = xz674.toInt := by have h9 := zi_eqL.mp cz675; simp only [Int32.toInt_toInt64] at h9; exact h9
                  obtain ⟨xz677, exz677⟩ : ∃ y : Int32, y = xz343 + Int32.ofInt (3) := ⟨_, rfl⟩
                  have fxz677 : xz677.toInt = xz343.toInt + (3) := by rw [exz677]; exact fb_addI (y := Int32.ofInt (3)) (by show -2147483648 ≤ xz343.toInt + (3); omega) (by show xz343.toInt + (3) < 2147483648; omega)
                  refine lv_iinc (v := xz677) (lv' := [(2, .int xz677), (4, .int xz356), (3, .int xz353), (0, .ref (qL 0)), (1, .ref (qY 0))]) hx hb dX6_tellsOf_71 hl (k := 4) rfl exz677.symm (by decide) rfl (fun ls hl => ?_)
                  refine lv_goto (tgt := 2) hx hb dX6_tellsOf_74 (by decide) ?_
                  exact ih2 ls xz677 (by show (2147483647 - xz677.toInt).toNat < n9_2; omega) (by show 0 ≤ xz677.toInt; omega) (by show 0 ≤ xz677.toInt ∧ xz677.toInt ≤ 63; omega) (lv_sub hl [3, 4, 0] rfl)
                · skip
                  rw [lg_cmp_eq] at cz675
                  have zz678 : ¬ rz672.toInt = xz674.toInt := by intro h9; apply cz675; rw [zi_eqL]; simp only [Int32.toInt_toInt64]; exact h9
                  refine lv_iconst (v := 0) hx hb dX6_tellsOf_69 (by decide) ?_
                  rw [hQ]
                  exact W.zret (v := (0 : Int32)) hx hb hr rfl (fun t ht hW => ⟨(0 : Int32), rfl, (by show (0 : Int) = 0 ∨ (0 : Int) = 1; omega), ht⟩) (fun _ h => absurd h List.not_mem_nil) dX6_tellsOf_70
              · skip
                have zz679 : xz353.toInt = (2 : Int) := zi_eq.mp cz660
                refine W.eq (g2 := F0 m 52 ls [.int 2, .ref (sY 7 1)]) (by rw [cz660]) ?_
                refine va_aldq hx hb hK hP 82 4 rfl rfl (by unfold vp_in; decide) dX6_tellsOf_52 ?_
                refine W.eq (g2 := F0 m 53 ls [.ref (sY 7 8)]) rfl ?_
                have hPc := hP.sub (ws' := (List.flatten [(wMem (fun i => sY 7 (i + 8)) k (fun i => (nY 7) (i + 2)) (fun i => (aY 7) (i + 4)))])) [89, 90, 91] rfl
                refine vp_callSi (va_Run.run (va_runV (As := []) (rest := []) ⟨hx, hb, hml, hown, hts⟩ (c_X2_depth l dC dI k (fun i => sY 7 (i + 8)) (fun i => (nY 7) (i + 2)) (fun i => (aY 7) (i + 4)) (fun i => (hnY 7) (i + 2))) (cwV 0 hts (gk_V (wl_mem 12 rfl) (wl_mem 13 rfl) (wl_mem 14 rfl) (wl_mem 15 rfl) (fun w h => List.mem_cons_of_mem _ (List.mem_append_right _ (List.mem_append_right _ (List.mem_append_right _ (List.mem_append_right _ (List.mem_append_right _ (List.mem_append_right _ (List.mem_append_left _ h)))))))) wkg_c_X2_depth) rfl rfl rfl (by decide +kernel) ⟨Nat.le_of_ble_eq_true rfl, Nat.le_of_ble_eq_true rfl⟩) ⟨fun a U g mk q => by obtain ⟨q0, qP, qK⟩ := q; exact ⟨q0, qP, va_K.moved (u := U) (U := U.calling g mk a) (Vm.Alike.refl U.vm) qK⟩, va_recv hK hPc (ci := 2) (q0 := 0) rfl rfl, fun U hU hW => ⟨rfl, by rw [hU]; exact hPc, va_K.moved hW.alike hK⟩⟩ rfl rfl hl.1 rfl (lv_room (Nat.le_of_ble_eq_true rfl)) dX6_tellsOf_53 ⟨Nat.le_of_ble_eq_true rfl, Nat.le_of_ble_eq_true rfl⟩)) (fun rz681 gz680 => ?_)
                clear hPc
                refine lv_i2l hx hb dX6_tellsOf_56 rfl ?_
                refine lv_aload_n hx hb dX6_tellsOf_57 rfl (lv_at hl 2 rfl) ?_
                refine va_get (D := (dC, dI)) (ci := 6) (v := .ref (qL 1)) (C := RX6) (T := TX6) (N := 4) hx hb hts (fun w h => List.mem_cons_of_mem _ (List.mem_append_right _ (List.mem_append_left _ h))) hown hK hP 0 rfl rfl 0 (by decide) (hts (.fieldLink RX6 9 "SagMemory$Slot" "numbers" "[J") (wl_mem 1 rfl)) (fun _ h9 => h9) rfl dX6_tellsOf_58 ?_
                refine lv_iload_n hx hb dX6_tellsOf_61 rfl (lv_at hl 4 rfl) ?_
                refine lv_iconst (v := 2) hx hb dX6_tellsOf_62 (by decide) ?_
                refine lv_iadd hx hb dX6_tellsOf_63 ?_
                refine lv_topi (fun xz682 exz682 => ?_)
                have fxz682 : xz682.toInt = xz343.toInt + (2 : Int) := by rw [exz682]; exact fb_addI (x := xz343) (y := (2 : Int32)) (by show -2147483648 ≤ xz343.toInt + (2 : Int); omega) (by show xz343.toInt + (2 : Int) < 2147483648; omega)
                refine va_lald hx hb hK hP 1 1 rfl rfl (vp_in_iff.mpr ⟨by omega, by omega⟩) dX6_tellsOf_64 ?_
                refine lv_topl (fun xz683 exz683 => ?_)
                refine W.lcmp hx hb dX6_tellsOf_65 ?_
                refine lv_if_eq (tgt := 71) hx hb dX6_tellsOf_66 (by decide) (fun cz684 => ?_) (fun cz684 => ?_)
                · skip
                  rw [lg_cmp_eq] at cz684
                  have zz685 : rz681.toInt = xz683.toInt := by have h9 := zi_eqL.mp cz684; simp only [Int32.toInt_toInt64] at h9; exact h9
                  obtain ⟨xz686, exz686⟩ : ∃ y : Int32, y = xz343 + Int32.ofInt (3) := ⟨_, rfl⟩
                  have fxz686 : xz686.toInt = xz343.toInt + (3) := by rw [exz686]; exact fb_addI (y := Int32.ofInt (3)) (by show -2147483648 ≤ xz343.toInt + (3); omega) (by show xz343.toInt + (3) < 2147483648; omega)
                  refine lv_iinc (v := xz686) (lv' := [(2, .int xz686), (4, .int xz356), (3, .int xz353), (0, .ref (qL 0)), (1, .ref (qY 0))]) hx hb dX6_tellsOf_71 hl (k := 4) rfl exz686.symm (by decide) rfl (fun ls hl => ?_)
                  refine lv_goto (tgt := 2) hx hb dX6_tellsOf_74 (by decide) ?_
                  exact ih2 ls xz686 (by show (2147483647 - xz686.toInt).toNat < n9_2; omega) (by show 0 ≤ xz686.toInt; omega) (by show 0 ≤ xz686.toInt ∧ xz686.toInt ≤ 63; omega) (lv_sub hl [3, 4, 0] rfl)
                · skip
                  rw [lg_cmp_eq] at cz684
                  have zz687 : ¬ rz681.toInt = xz683.toInt := by intro h9; apply cz684; rw [zi_eqL]; simp only [Int32.toInt_toInt64]; exact h9
                  refine lv_iconst (v := 0) hx hb dX6_tellsOf_69 (by decide) ?_
                  rw [hQ]
                  exact W.zret (v := (0 : Int32)) hx hb hr rfl (fun t ht hW => ⟨(0 : Int32), rfl, (by show (0 : Int) = 0 ∨ (0 : Int) = 1; omega), ht⟩) (fun _ h => absurd h List.not_mem_nil) dX6_tellsOf_70
  exact lp2_kz344 _ ls (0 : Int32) (Nat.lt_succ_self _) (by show 0 ≤ (0 : Int); omega) (by show 0 ≤ (0 : Int) ∧ (0 : Int) ≤ 63; omega) (lv_sub hl [1, 2, 0] rfl)
