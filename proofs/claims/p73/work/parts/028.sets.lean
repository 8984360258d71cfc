def wk_c_X5_begin : List Cond := .code yX5_begin cX5_begin 4 none :: ([.fieldLink RX5 29 "SagMemory$Sets" "carts" "I", .fieldLink RX5 55 "SagMemory$Sets" "found" "I", .fieldLink RX5 58 "SagMemory$Sets" "common" "I", .fieldLink RX5 61 "SagMemory$Sets" "seen" "I", .fieldLink RX5 64 "SagMemory$Sets" "smallest" "I", .fieldLink RX5 9 "SagMemory$Sets" "with" "[I"] ++ (wsX50 ++ []))
theorem wkg_c_X5_begin : wk_c_X5_begin.all goodWord = true := by decide +kernel
set_option maxHeartbeats 4000000 in
set_option maxRecDepth 100000 in
theorem c_X5_begin (l : Launch) (dC : Nat → ClassId) (dI : Nat → Nat → Nat) (k : Nat → ClassId) (sz : Nat) (qE : Nat → Nat) (vE : Nat → Int32) (cE : Nat → Int32) (aE : Nat → Nat → Int32) (p1 : Int32) (p2 : Int32) (hcE : Rg 0 7 cE) (hp0 : 0 ≤ p1.toInt ∧ p1.toInt ≤ 7) : Met l yX5_begin wk_c_X5_begin ({ frames := 0, cells := 0, slots := 0, locals := 0 }) (va_Pc [.ref (qE 0), .int p1, .int p2] (fun U => U.heap.size = sz ∧ va_P (dC, dI) vwCl (List.flatten [(wSets qE k vE cE aE)] ++ List.flatten ([] : List va_W)) U.heap ∧ va_K (dC, dI) vwCl (tK k) U ∧ va_D (fun _ => True) (List.flatten [(wSets qE k vE cE aE)] ++ List.flatten ([] : List va_W)))) (va_Qv (fun _ : Unit => True) (fun (_ : Unit) (t : State) => ∃ (vE' : Nat → Int32) (cE' : Nat → Int32) (aE' : Nat → Nat → Int32), Rg 0 7 cE' ∧ va_P (dC, dI) vwCl (List.flatten [(wSets qE k vE' cE' aE')] ++ List.flatten ([] : List va_W)) t.heap) (va_A (List.flatten [(wSets qE k vE cE aE)] ++ List.flatten ([] : List va_W)) sz)) 0 0 (va_A (List.flatten [(wSets qE k vE cE aE)] ++ List.flatten ([] : List va_W)) sz) := by
  refine Met.ofW (cc := cX5_begin) (maxL := 4) (ret := none) (by decide) rfl ?_
  intro p e s m args below meth c s₁ B hml hv
  obtain ⟨rfl, hsz, hP, hK, hD0⟩ := hv
  have hx := B.exec
  have hb := B.bytes
  have hr := B.returns
  have hts := atoms_spec (ws := wk_c_X5_begin) B.pre
  have hown : s.vm.findClass RX5 = some m.cls := findClass_of_methodNamed B.named
  have hlocks := B.notSynchronized
  subst hsz
  have hD := hD0.self (sz := s.heap.size)
  generalize hAe : va_A (List.flatten [(wSets qE k vE cE aE)] ++ List.flatten ([] : List va_W)) s.heap.size = A at hD ⊢
  have hA : ∀ q : Nat, s.heap.size ≤ q → A q := fun q h => by rw [← hAe]; exact Or.inr h
  have hS : va_S A s.heap s.heap [] := va_S.rf
  have hP : va_P (dC, dI) vwCl (List.flatten [(wSets qE k vE cE aE)] ++ List.flatten ([] : List va_W)) s.heap := hP
  have hl := lv_entry ([.ref (qE 0), .int p1, .int p2]) (n := 4) (Nat.le_of_ble_eq_true rfl)
  rw [lg_entry_eq]
  generalize (lg_sl ([.ref (qE 0), .int p1, .int p2]) ++ List.replicate (4 - (lg_sl ([.ref (qE 0), .int p1, .int p2])).length) Slot.unset).toArray = ls at hl ⊢
  have hl : lv_has ls 4 [(0, .ref (qE 0)), (1, .int p1), (2, .int p2)] := hl
  refine w_gen (fun Q hQ => ?_)
  refine lv_aload_n hx hb dX5_begin_0 rfl (lv_at hl 0 rfl) ?_
  refine lv_iload_n hx hb dX5_begin_1 rfl (lv_at hl 1 rfl) ?_
  refine va_put (D := (dC, dI)) (ci := 5) (v := .int p1) (ty := .int) (C := RX5) (T := TX5) (N := 6) hx hb hts (fun w h => List.mem_cons_of_mem _ (List.mem_append_right _ (List.mem_append_left _ h))) tyX5 tyX5_ok nmX5 hown hK hP hD hS 0 rfl rfl 1 (by decide) (hts (.fieldLink RX5 29 "SagMemory$Sets" "carts" "I") (wl_mem 0 rfl)) (fun _ h9 => h9) rfl (by decide +kernel) rfl rfl (Nat.le_of_ble_eq_true rfl) dX5_begin_2 (fun H locs hP hD hS => ?_)
  have hP : va_P (dC, dI) vwCl (List.flatten [(wSets qE k vE (va_up cE 0 p1) aE)] ++ List.flatten ([] : List va_W)) H := hP
  have hD : va_D A (List.flatten [(wSets qE k vE (va_up cE 0 p1) aE)] ++ List.flatten ([] : List va_W)) := hD
  refine lv_aload_n hx hb dX5_begin_5 rfl (lv_at hl 0 rfl) ?_
  refine lv_iconst (v := 0) hx hb dX5_begin_6 (by decide) ?_
  refine va_put (D := (dC, dI)) (ci := 5) (v := .int 0) (ty := .int) (C := RX5) (T := TX5) (N := 6) hx hb hts (fun w h => List.mem_cons_of_mem _ (List.mem_append_right _ (List.mem_append_left _ h))) tyX5 tyX5_ok nmX5 hown hK hP hD hS 0 rfl rfl 2 (by decide) (hts (.fieldLink RX5 55 "SagMemory$Sets" "found" "I") (wl_mem 1 rfl)) (fun _ h9 => h9) rfl (by decide +kernel) rfl rfl (Nat.le_of_ble_eq_true rfl) dX5_begin_7 (fun H locs hP hD hS => ?_)
  have hP : va_P (dC, dI) vwCl (List.flatten [(wSets qE k (va_up vE 0 (0 : Int32)) (va_up cE 0 p1) aE)] ++ List.flatten ([] : List va_W)) H := hP
  have hD : va_D A (List.flatten [(wSets qE k (va_up vE 0 (0 : Int32)) (va_up cE 0 p1) aE)] ++ List.flatten ([] : List va_W)) := hD
  refine lv_aload_n hx hb dX5_begin_10 rfl (lv_at hl 0 rfl) ?_
  refine lv_iload_n hx hb dX5_begin_11 rfl (lv_at hl 2 rfl) ?_
  refine va_put (D := (dC, dI)) (ci := 5) (v := .int p2) (ty := .int) (C := RX5) (T := TX5) (N := 6) hx hb hts (fun w h => List.mem_cons_of_mem _ (List.mem_append_right _ (List.mem_append_left _ h))) tyX5 tyX5_ok nmX5 hown hK hP hD hS 0 rfl rfl 3 (by decide) (hts (.fieldLink RX5 58 "SagMemory$Sets" "common" "I") (wl_mem 2 rfl)) (fun _ h9 => h9) rfl (by decide +kernel) rfl rfl (Nat.le_of_ble_eq_true rfl) dX5_begin_12 (fun H locs hP hD hS => ?_)
  have hP : va_P (dC, dI) vwCl (List.flatten [(wSets qE k (va_up (va_up vE 0 (0 : Int32)) 1 p2) (va_up cE 0 p1) aE)] ++ List.flatten ([] : List va_W)) H := hP
  have hD : va_D A (List.flatten [(wSets qE k (va_up (va_up vE 0 (0 : Int32)) 1 p2) (va_up cE 0 p1) aE)] ++ List.flatten ([] : List va_W)) := hD
  refine lv_aload_n hx hb dX5_begin_15 rfl (lv_at hl 0 rfl) ?_
  refine lv_iconst (v := 0) hx hb dX5_begin_16 (by decide) ?_
  refine va_put (D := (dC, dI)) (ci := 5) (v := .int 0) (ty := .int) (C := RX5) (T := TX5) (N := 6) hx hb hts (fun w h => List.mem_cons_of_mem _ (List.mem_append_right _ (List.mem_append_left _ h))) tyX5 tyX5_ok nmX5 hown hK hP hD hS 0 rfl rfl 4 (by decide) (hts (.fieldLink RX5 61 "SagMemory$Sets" "seen" "I") (wl_mem 3 rfl)) (fun _ h9 => h9) rfl (by decide +kernel) rfl rfl (Nat.le_of_ble_eq_true rfl) dX5_begin_17 (fun H locs hP hD hS => ?_)
  have hP : va_P (dC, dI) vwCl (List.flatten [(wSets qE k (va_up (va_up (va_up vE 0 (0 : Int32)) 1 p2) 2 (0 : Int32)) (va_up cE 0 p1) aE)] ++ List.flatten ([] : List va_W)) H := hP
  have hD : va_D A (List.flatten [(wSets qE k (va_up (va_up (va_up vE 0 (0 : Int32)) 1 p2) 2 (0 : Int32)) (va_up cE 0 p1) aE)] ++ List.flatten ([] : List va_W)) := hD
  refine lv_aload_n hx hb dX5_begin_20 rfl (lv_at hl 0 rfl) ?_
  refine lv_iconst (v := (-1)) hx hb dX5_begin_21 (by decide) ?_
  refine va_put (D := (dC, dI)) (ci := 5) (v := .int (-1)) (ty := .int) (C := RX5) (T := TX5) (N := 6) hx hb hts (fun w h => List.mem_cons_of_mem _ (List.mem_append_right _ (List.mem_append_left _ h))) tyX5 tyX5_ok nmX5 hown hK hP hD hS 0 rfl rfl 5 (by decide) (hts (.fieldLink RX5 64 "SagMemory$Sets" "smallest" "I") (wl_mem 4 rfl)) (fun _ h9 => h9) rfl (by decide +kernel) rfl rfl (Nat.le_of_ble_eq_true rfl) dX5_begin_22 (fun H locs hP hD hS => ?_)
  have hP : va_P (dC, dI) vwCl (List.flatten [(wSets qE k (va_up (va_up (va_up (va_up vE 0 (0 : Int32)) 1 p2) 2 (0 : Int32)) 3 (-1 : Int32)) (va_up cE 0 p1) aE)] ++ List.flatten ([] : List va_W)) H := hP
  have hD : va_D A (List.flatten [(wSets qE k (va_up (va_up (va_up (va_up vE 0 (0 : Int32)) 1 p2) 2 (0 : Int32)) 3 (-1 : Int32)) (va_up cE 0 p1) aE)] ++ List.flatten ([] : List va_W)) := hD
  refine lv_iconst (v := 0) hx hb dX5_begin_25 (by decide) ?_
  refine lv_istore_n (lv' := [(3, .int 0), (0, .ref (qE 0)), (1, .int p1), (2, .int p2)]) hx hb dX5_begin_26 rfl hl (by decide) rfl (fun ls hl => ?_)
  have lp27_kz14 : ∀ (n9_27 : Nat) (H : Heap) (locs : List Loc) (ls : Array Slot) (az12 : Nat → Nat → Int32) (xz13 : Int32), (2147483647 - xz13.toInt).toNat < n9_27 → 0 ≤ xz13.toInt → va_P (dC, dI) vwCl (List.flatten [(wSets qE k (va_up (va_up (va_up (va_up vE 0 (0 : Int32)) 1 p2) 2 (0 : Int32)) 3 (-1 : Int32)) (va_up cE 0 p1) az12)] ++ List.flatten ([] : List va_W)) H → va_D A (List.flatten [(wSets qE k (va_up (va_up (va_up (va_up vE 0 (0 : Int32)) 1 p2) 2 (0 : Int32)) 3 (-1 : Int32)) (va_up cE 0 p1) az12)] ++ List.flatten ([] : List va_W)) → va_S A s.heap H locs → lv_has ls 4 [(0, .ref (qE 0)), (3, .int xz13)] → W p l e (headSpec wk_c_X5_begin ({ frames := 0, cells := 0, slots := 0, locals := 0 })).room s m ([.ref (qE 0), .int p1, .int p2] : List Value).toArray below meth c H locs 0 0 Q (F0 m 27 ls []) := by
    intro n9_27
    induction n9_27 with
    | zero => intro H locs ls az12 xz13 hm; exact absurd hm (Nat.not_lt_zero _)
    | succ n9_27 ih27 =>
      intro H locs ls az12 xz13 hm27 jz15 hP hD hS hl
      refine lv_iload_n hx hb dX5_begin_27 rfl (lv_at hl 1 rfl) ?_
      refine lv_bipush (v := 7) hx hb dX5_begin_28 (by decide) ?_
      refine lv_icmp_ge (tgt := 46) hx hb dX5_begin_30 (by decide) (fun cz16 => ?_) (fun cz16 => ?_)
      · skip
        have bz17 := fb_rng xz13
        have zz18 : (7 : Int) ≤ xz13.toInt := zi_le.mp cz16
        rw [hQ]
        exact W.vret hx hb hr (fun t ht hW => ⟨⟨(), rfl, trivial, (va_up (va_up (va_up (va_up vE 0 (0 : Int32)) 1 p2) 2 (0 : Int32)) 3 (-1 : Int32)), (va_up cE 0 p1), az12, (rg_up hcE (by show 0 ≤ p1.toInt ∧ p1.toInt ≤ 7; omega)), by rw [ht]; exact hP⟩, hS.F ht⟩) hS.2.2 dX5_begin_46
      · skip
        have bz19 := fb_rng xz13
        have zz20 : ¬ (7 : Int) ≤ xz13.toInt := fun h9 => cz16 (zi_le.mpr h9)
        refine lv_aload_n hx hb dX5_begin_33 rfl (lv_at hl 0 rfl) ?_
        refine va_get (D := (dC, dI)) (ci := 5) (v := .ref (qE 1)) (C := RX5) (T := TX5) (N := 6) hx hb hts (fun w h => List.mem_cons_of_mem _ (List.mem_append_right _ (List.mem_append_left _ h))) hown hK hP 0 rfl rfl 0 (by decide) (hts (.fieldLink RX5 9 "SagMemory$Sets" "with" "[I") (wl_mem 5 rfl)) (fun _ h9 => h9) rfl dX5_begin_34 ?_
        refine lv_iload_n hx hb dX5_begin_37 rfl (lv_at hl 1 rfl) ?_
        refine lv_iconst (v := 0) hx hb dX5_begin_38 (by decide) ?_
        refine va_iast hx hb hK hP hD hS 1 0 rfl rfl (vp_in_iff.mpr ⟨by omega, by omega⟩) dX5_begin_39 (fun H locs hP hD hS => ?_)
        obtain ⟨fz21, efz21, hP, hD⟩ : ∃ fz21 : Nat → Int32, fz21 = upd (az12 0) xz13.toNatClampNeg (0 : Int32) ∧ va_P (dC, dI) vwCl (List.flatten [(wSets qE k (va_up (va_up (va_up (va_up vE 0 (0 : Int32)) 1 p2) 2 (0 : Int32)) 3 (-1 : Int32)) (va_up cE 0 p1) (va_up az12 0 fz21))] ++ List.flatten ([] : List va_W)) H ∧ va_D A (List.flatten [(wSets qE k (va_up (va_up (va_up (va_up vE 0 (0 : Int32)) 1 p2) 2 (0 : Int32)) 3 (-1 : Int32)) (va_up cE 0 p1) (va_up az12 0 fz21))] ++ List.flatten ([] : List va_W)) := ⟨_, rfl, hP, hD⟩
        have kfz21 : fz21 xz13.toNatClampNeg = (0 : Int32) := by rw [efz21]; exact pk_us
        obtain ⟨xz22, exz22⟩ : ∃ y : Int32, y = xz13 + Int32.ofInt (1) := ⟨_, rfl⟩
        have fxz22 : xz22.toInt = xz13.toInt + (1) := by rw [exz22]; exact fb_addI (y := Int32.ofInt (1)) (by show -2147483648 ≤ xz13.toInt + (1); omega) (by show xz13.toInt + (1) < 2147483648; omega)
        refine lv_iinc (v := xz22) (lv' := [(3, .int xz22), (0, .ref (qE 0))]) hx hb dX5_begin_40 hl (k := 1) rfl exz22.symm (by decide) rfl (fun ls hl => ?_)
        refine lv_goto (tgt := 27) hx hb dX5_begin_43 (by decide) ?_
        exact ih27 H locs ls (va_up az12 0 fz21) xz22 (by show (2147483647 - xz22.toInt).toNat < n9_27; omega) (by show 0 ≤ xz22.toInt; omega) hP hD hS (lv_sub hl [1, 0] rfl)
  exact lp27_kz14 _ H locs ls aE (0 : Int32) (Nat.lt_succ_self _) (by show 0 ≤ (0 : Int); omega) hP hD hS (lv_sub hl [1, 0] rfl)
def wk_c_X5_add : List Cond := .code yX5_add cX5_add 3 none :: ([.fieldLink RX5 55 "SagMemory$Sets" "found" "I", .fieldLink RX5 64 "SagMemory$Sets" "smallest" "I", .methodLink RX5 67 yJ6_bitCount_0f7a4, .static yJ6_bitCount_0f7a4, .initialized RJ6, .fieldLink RX5 58 "SagMemory$Sets" "common" "I", .fieldLink RX5 61 "SagMemory$Sets" "seen" "I", .fieldLink RX5 29 "SagMemory$Sets" "carts" "I", .fieldLink RX5 9 "SagMemory$Sets" "with" "[I"] ++ (wsX50 ++ (wk_c_J6_bitCount_0f7a4 ++ [])))
theorem wkg_c_X5_add : wk_c_X5_add.all goodWord = true := by decide +kernel
set_option maxHeartbeats 4000000 in
set_option maxRecDepth 100000 in
theorem c_X5_add (l : Launch) (dC : Nat → ClassId) (dI : Nat → Nat → Nat) (k : Nat → ClassId) (sz : Nat) (qE : Nat → Nat) (vE : Nat → Int32) (cE : Nat → Int32) (aE : Nat → Nat → Int32) (p1 : Int32) (hcE : Rg 0 7 cE) : Met l yX5_add wk_c_X5_add ({ frames := 1, cells := 0, slots := 0, locals := 20 }) (va_Pc [.ref (qE 0), .int p1] (fun U => U.heap.size = sz ∧ va_P (dC, dI) vwCl (List.flatten [(wSets qE k vE cE aE)] ++ List.flatten ([] : List va_W)) U.heap ∧ va_K (dC, dI) vwCl (tK k) U ∧ va_D (fun _ => True) (List.flatten [(wSets qE k vE cE aE)] ++ List.flatten ([] : List va_W)))) (va_Qv (fun _ : Unit => True) (fun (_ : Unit) (t : State) => ∃ (vE' : Nat → Int32) (cE' : Nat → Int32) (aE' : Nat → Nat → Int32), Rg 0 7 cE' ∧ va_P (dC, dI) vwCl (List.flatten [(wSets qE k vE' cE' aE')] ++ List.flatten ([] : List va_W)) t.heap) (va_A (List.flatten [(wSets qE k vE cE aE)] ++ List.flatten ([] : List va_W)) sz)) 0 0 (va_A (List.flatten [(wSets qE k vE cE aE)] ++ List.flatten ([] : List va_W)) sz) := by
  refine Met.ofW (cc := cX5_add) (maxL := 3) (ret := none) (by decide) rfl ?_
  intro p e s m args below meth c s₁ B hml hv
  obtain ⟨rfl, hsz, hP, hK, hD0⟩ := hv
  have hx := B.exec
  have hb := B.bytes
  have hr := B.returns
  have hts := atoms_spec (ws := wk_c_X5_add) B.pre
  have hown : s.vm.findClass RX5 = some m.cls := findClass_of_methodNamed B.named
  have hlocks := B.notSynchronized
  subst hsz
  have hD := hD0.self (sz := s.heap.size)
  generalize hAe : va_A (List.flatten [(wSets qE k vE cE aE)] ++ List.flatten ([] : List va_W)) s.heap.size = A at hD ⊢
  have hA : ∀ q : Nat, s.heap.size ≤ q → A q := fun q h => by rw [← hAe]; exact Or.inr h
  have hS : va_S A s.heap s.heap [] := va_S.rf
  have hP : va_P (dC, dI) vwCl (List.flatten [(wSets qE k vE cE aE)] ++ List.flatten ([] : List va_W)) s.heap := hP
  have hl := lv_entry ([.ref (qE 0), .int p1]) (n := 3) (Nat.le_of_ble_eq_true rfl)
  rw [lg_entry_eq]
  generalize (lg_sl ([.ref (qE 0), .int p1]) ++ List.replicate (3 - (lg_sl ([.ref (qE 0), .int p1])).length) Slot.unset).toArray = ls at hl ⊢
  have hl : lv_has ls 3 [(0, .ref (qE 0)), (1, .int p1)] := hl
  refine w_gen (fun Q hQ => ?_)
  refine lv_aload_n hx hb dX5_add_0 rfl (lv_at hl 0 rfl) ?_
  refine va_get (D := (dC, dI)) (ci := 5) (v := .int (vE 0)) (C := RX5) (T := TX5) (N := 6) hx hb hts (fun w h => List.mem_cons_of_mem _ (List.mem_append_right _ (List.mem_append_left _ h))) hown hK hP 0 rfl rfl 2 (by decide) (hts (.fieldLink RX5 55 "SagMemory$Sets" "found" "I") (wl_mem 0 rfl)) (fun _ h9 => h9) rfl dX5_add_1 ?_
  have ct26_kz14 : ∀ (H : Heap) (locs : List Loc) (ls : Array Slot) (vz13 : Nat → Int32), va_P (dC, dI) vwCl (List.flatten [(wSets qE k vz13 cE aE)] ++ List.flatten ([] : List va_W)) H → va_D A (List.flatten [(wSets qE k vz13 cE aE)] ++ List.flatten ([] : List va_W)) → va_S A s.heap H locs → lv_has ls 3 [(0, .ref (qE 0)), (1, .int p1)] → W p l e (headSpec wk_c_X5_add ({ frames := 1, cells := 0, slots := 0, locals := 20 })).room s m ([.ref (qE 0), .int p1] : List Value).toArray below meth c H locs 0 0 Q (F0 m 26 ls []) := by
    intro H locs ls vz13  hP hD hS hl
    refine lv_aload_n hx hb dX5_add_26 rfl (lv_at hl 0 rfl) ?_
    refine lv_dup hx hb dX5_add_27 rfl ?_
    refine va_get (D := (dC, dI)) (ci := 5) (v := .int (vz13 0)) (C := RX5) (T := TX5) (N := 6) hx hb hts (fun w h => List.mem_cons_of_mem _ (List.mem_append_right _ (List.mem_append_left _ h))) hown hK hP 0 rfl rfl 2 (by decide) (hts (.fieldLink RX5 55 "SagMemory$Sets" "found" "I") (wl_mem 0 rfl)) (fun _ h9 => h9) rfl dX5_add_28 ?_
    refine lv_iconst (v := 1) hx hb dX5_add_31 (by decide) ?_
    refine lv_iadd hx hb dX5_add_32 ?_
    refine lv_topi (fun xz15 exz15 => ?_)
    refine va_put (D := (dC, dI)) (ci := 5) (v := .int xz15) (ty := .int) (C := RX5) (T := TX5) (N := 6) hx hb hts (fun w h => List.mem_cons_of_mem _ (List.mem_append_right _ (List.mem_append_left _ h))) tyX5 tyX5_ok nmX5 hown hK hP hD hS 0 rfl rfl 2 (by decide) (hts (.fieldLink RX5 55 "SagMemory$Sets" "found" "I") (wl_mem 0 rfl)) (fun _ h9 => h9) rfl (by decide +kernel) rfl rfl (Nat.le_of_ble_eq_true rfl) dX5_add_33 (fun H locs hP hD hS => ?_)
    have hP : va_P (dC, dI) vwCl (List.flatten [(wSets qE k (va_up vz13 0 xz15) cE aE)] ++ List.flatten ([] : List va_W)) H := hP
    have hD : va_D A (List.flatten [(wSets qE k (va_up vz13 0 xz15) cE aE)] ++ List.flatten ([] : List va_W)) := hD
    refine lv_aload_n hx hb dX5_add_36 rfl (lv_at hl 0 rfl) ?_
    refine lv_dup hx hb dX5_add_37 rfl ?_
    refine va_get (D := (dC, dI)) (ci := 5) (v := .int (vz13 1)) (C := RX5) (T := TX5) (N := 6) hx hb hts (fun w h => List.mem_cons_of_mem _ (List.mem_append_right _ (List.mem_append_left _ h))) hown hK hP 0 rfl rfl 3 (by decide) (hts (.fieldLink RX5 58 "SagMemory$Sets" "common" "I") (wl_mem 5 rfl)) (fun _ h9 => h9) rfl dX5_add_38 ?_
    refine lv_iload_n hx hb dX5_add_41 rfl (lv_at hl 1 rfl) ?_
    refine lv_iand hx hb dX5_add_42 ?_
    refine lv_topi (fun xz16 exz16 => ?_)
    refine va_put (D := (dC, dI)) (ci := 5) (v := .int xz16) (ty := .int) (C := RX5) (T := TX5) (N := 6) hx hb hts (fun w h => List.mem_cons_of_mem _ (List.mem_append_right _ (List.mem_append_left _ h))) tyX5 tyX5_ok nmX5 hown hK hP hD hS 0 rfl rfl 3 (by decide) (hts (.fieldLink RX5 58 "SagMemory$Sets" "common" "I") (wl_mem 5 rfl)) (fun _ h9 => h9) rfl (by decide +kernel) rfl rfl (Nat.le_of_ble_eq_true rfl) dX5_add_43 (fun H locs hP hD hS => ?_)
    have hP : va_P (dC, dI) vwCl (List.flatten [(wSets qE k (va_up (va_up vz13 0 xz15) 1 xz16) cE aE)] ++ List.flatten ([] : List va_W)) H := hP
    have hD : va_D A (List.flatten [(wSets qE k (va_up (va_up vz13 0 xz15) 1 xz16) cE aE)] ++ List.flatten ([] : List va_W)) := hD
    refine lv_aload_n hx hb dX5_add_46 rfl (lv_at hl 0 rfl) ?_
    refine lv_dup hx hb dX5_add_47 rfl ?_
    refine va_get (D := (dC, dI)) (ci := 5) (v := .int (vz13 2)) (C := RX5) (T := TX5) (N := 6) hx hb hts (fun w h => List.mem_cons_of_mem _ (List.mem_append_right _ (List.mem_append_left _ h))) hown hK hP 0 rfl rfl 4 (by decide) (hts (.fieldLink RX5 61 "SagMemory$Sets" "seen" "I") (wl_mem 6 rfl)) (fun _ h9 => h9) rfl dX5_add_48 ?_
    refine lv_iload_n hx hb dX5_add_51 rfl (lv_at hl 1 rfl) ?_
    refine lv_ior hx hb dX5_add_52 ?_
    refine lv_topi (fun xz17 exz17 => ?_)
    refine va_put (D := (dC, dI)) (ci := 5) (v := .int xz17) (ty := .int) (C := RX5) (T := TX5) (N := 6) hx hb hts (fun w h => List.mem_cons_of_mem _ (List.mem_append_right _ (List.mem_append_left _ h))) tyX5 tyX5_ok nmX5 hown hK hP hD hS 0 rfl rfl 4 (by decide) (hts (.fieldLink RX5 61 "SagMemory$Sets" "seen" "I") (wl_mem 6 rfl)) (fun _ h9 => h9) rfl (by decide +kernel) rfl rfl (Nat.le_of_ble_eq_true rfl) dX5_add_53 (fun H locs hP hD hS => ?_)
    have hP : va_P (dC, dI) vwCl (List.flatten [(wSets qE k (va_up (va_up (va_up vz13 0 xz15) 1 xz16) 2 xz17) cE aE)] ++ List.flatten ([] : List va_W)) H := hP
    have hD : va_D A (List.flatten [(wSets qE k (va_up (va_up (va_up vz13 0 xz15) 1 xz16) 2 xz17) cE aE)] ++ List.flatten ([] : List va_W)) := hD
    refine lv_iconst (v := 0) hx hb dX5_add_56 (by decide) ?_
    refine lv_istore_n (lv' := [(2, .int 0), (0, .ref (qE 0)), (1, .int p1)]) hx hb dX5_add_57 rfl hl (by decide) rfl (fun ls hl => ?_)
    have lp58_kz36 : ∀ (n9_58 : Nat) (H : Heap) (locs : List Loc) (ls : Array Slot) (az34 : Nat → Nat → Int32) (xz35 : Int32), (2147483647 - xz35.toInt).toNat < n9_58 → 0 ≤ xz35.toInt → va_P (dC, dI) vwCl (List.flatten [(wSets qE k (va_up (va_up (va_up vz13 0 xz15) 1 xz16) 2 xz17) cE az34)] ++ List.flatten ([] : List va_W)) H → va_D A (List.flatten [(wSets qE k (va_up (va_up (va_up vz13 0 xz15) 1 xz16) 2 xz17) cE az34)] ++ List.flatten ([] : List va_W)) → va_S A s.heap H locs → lv_has ls 3 [(0, .ref (qE 0)), (1, .int p1), (2, .int xz35)] → W p l e (headSpec wk_c_X5_add ({ frames := 1, cells := 0, slots := 0, locals := 20 })).room s m ([.ref (qE 0), .int p1] : List Value).toArray below meth c H locs 0 0 Q (F0 m 58 ls []) := by
      intro n9_58
      induction n9_58 with
      | zero => intro H locs ls az34 xz35 hm; exact absurd hm (Nat.not_lt_zero _)
      | succ n9_58 ih58 =>
        intro H locs ls az34 xz35 hm58 jz37 hP hD hS hl
        refine lv_iload_n hx hb dX5_add_58 rfl (lv_at hl 2 rfl) ?_
        refine lv_aload_n hx hb dX5_add_59 rfl (lv_at hl 0 rfl) ?_
        refine va_get (D := (dC, dI)) (ci := 5) (v := .int (cE 0)) (C := RX5) (T := TX5) (N := 6) hx hb hts (fun w h => List.mem_cons_of_mem _ (List.mem_append_right _ (List.mem_append_left _ h))) hown hK hP 0 rfl rfl 1 (by decide) (hts (.fieldLink RX5 29 "SagMemory$Sets" "carts" "I") (wl_mem 7 rfl)) (fun _ h9 => h9) rfl dX5_add_60 ?_
        have bz38 := hcE 0
        refine lv_icmp_ge (tgt := 86) hx hb dX5_add_63 (by decide) (fun cz39 => ?_) (fun cz39 => ?_)
        · skip
          have bz40 := fb_rng xz35
          have zz41 : (cE 0).toInt ≤ xz35.toInt := zi_le.mp cz39
          rw [hQ]
          exact W.vret hx hb hr (fun t ht hW => ⟨⟨(), rfl, trivial, (va_up (va_up (va_up vz13 0 xz15) 1 xz16) 2 xz17), cE, az34, hcE, by rw [ht]; exact hP⟩, hS.F ht⟩) hS.2.2 dX5_add_86
        · skip
          have bz42 := fb_rng xz35
          have zz43 : ¬ (cE 0).toInt ≤ xz35.toInt := fun h9 => cz39 (zi_le.mpr h9)
          refine lv_aload_n hx hb dX5_add_66 rfl (lv_at hl 0 rfl) ?_
          refine va_get (D := (dC, dI)) (ci := 5) (v := .ref (qE 1)) (C := RX5) (T := TX5) (N := 6) hx hb hts (fun w h => List.mem_cons_of_mem _ (List.mem_append_right _ (List.mem_append_left _ h))) hown hK hP 0 rfl rfl 0 (by decide) (hts (.fieldLink RX5 9 "SagMemory$Sets" "with" "[I") (wl_mem 8 rfl)) (fun _ h9 => h9) rfl dX5_add_67 ?_
          refine lv_iload_n hx hb dX5_add_70 rfl (lv_at hl 2 rfl) ?_
          refine lv_dup2_11 hx hb dX5_add_71 rfl rfl ?_
          refine va_iald hx hb hK hP 1 0 rfl rfl (vp_in_iff.mpr ⟨by omega, by omega⟩) dX5_add_72 ?_
          refine lv_topi (fun xz44 exz44 => ?_)
          refine lv_iload_n hx hb dX5_add_73 rfl (lv_at hl 1 rfl) ?_
          refine lv_iload_n hx hb dX5_add_74 rfl (lv_at hl 2 rfl) ?_
          refine lv_ishr hx hb dX5_add_75 ?_
          refine lv_topi (fun xz45 exz45 => ?_)
          refine lv_iconst (v := 1) hx hb dX5_add_76 (by decide) ?_
          refine lv_iand hx hb dX5_add_77 ?_
          refine lv_topi (fun xz46 exz46 => ?_)
          have bxz46 : 0 ≤ xz46.toInt ∧ xz46.toInt ≤ 1 := by rw [exz46]; exact zand _ 1 2 (by decide) (by decide) (by decide)
          refine lv_iadd hx hb dX5_add_78 ?_
          refine lv_topi (fun xz47 exz47 => ?_)
          refine va_iast hx hb hK hP hD hS 1 0 rfl rfl (vp_in_iff.mpr ⟨by omega, by omega⟩) dX5_add_79 (fun H locs hP hD hS => ?_)
          obtain ⟨fz48, efz48, hP, hD⟩ : ∃ fz48 : Nat → Int32, fz48 = upd (az34 0) xz35.toNatClampNeg xz47 ∧ va_P (dC, dI) vwCl (List.flatten [(wSets qE k (va_up (va_up (va_up vz13 0 xz15) 1 xz16) 2 xz17) cE (va_up az34 0 fz48))] ++ List.flatten ([] : List va_W)) H ∧ va_D A (List.flatten [(wSets qE k (va_up (va_up (va_up vz13 0 xz15) 1 xz16) 2 xz17) cE (va_up az34 0 fz48))] ++ List.flatten ([] : List va_W)) := ⟨_, rfl, hP, hD⟩
          have kfz48 : fz48 xz35.toNatClampNeg = xz47 := by rw [efz48]; exact pk_us
          obtain ⟨xz49, exz49⟩ : ∃ y : Int32, y = xz35 + Int32.ofInt (1) := ⟨_, rfl⟩
          have fxz49 : xz49.toInt = xz35.toInt + (1) := by rw [exz49]; exact fb_addI (y := Int32.ofInt (1)) (by show -2147483648 ≤ xz35.toInt + (1); omega) (by show xz35.toInt + (1) < 2147483648; omega)
          refine lv_iinc (v := xz49) (lv' := [(2, .int xz49), (0, .ref (qE 0)), (1, .int p1)]) hx hb dX5_add_80 hl (k := 2) rfl exz49.symm (by decide) rfl (fun ls hl => ?_)
          refine lv_goto (tgt := 58) hx hb dX5_add_83 (by decide) ?_
          exact ih58 H locs ls (va_up az34 0 fz48) xz49 (by show (2147483647 - xz49.toInt).toNat < n9_58; omega) (by show 0 ≤ xz49.toInt; omega) hP hD hS (lv_sub hl [1, 2, 0] rfl)
    exact lp58_kz36 _ H locs ls aE (0 : Int32) (Nat.lt_succ_self _) (by show 0 ≤ (0 : Int); omega) hP hD hS (lv_sub hl [1, 2, 0] rfl)
  have ct21_kz62 : ∀ (H : Heap) (locs : List Loc) (ls : Array Slot), va_P (dC, dI) vwCl (List.flatten [(wSets qE k vE cE aE)] ++ List.flatten ([] : List va_W)) H → va_D A (List.flatten [(wSets qE k vE cE aE)] ++ List.flatten ([] : List va_W)) → va_S A s.heap H locs → lv_has ls 3 [(0, .ref (qE 0)), (1, .int p1)] → W p l e (headSpec wk_c_X5_add ({ frames := 1, cells := 0, slots := 0, locals := 20 })).room s m ([.ref (qE 0), .int p1] : List Value).toArray below meth c H locs 0 0 Q (F0 m 21 ls []) := by
    intro H locs ls  hP hD hS hl
    refine lv_aload_n hx hb dX5_add_21 rfl (lv_at hl 0 rfl) ?_
    refine lv_iload_n hx hb dX5_add_22 rfl (lv_at hl 1 rfl) ?_
    refine va_put (D := (dC, dI)) (ci := 5) (v := .int p1) (ty := .int) (C := RX5) (T := TX5) (N := 6) hx hb hts (fun w h => List.mem_cons_of_mem _ (List.mem_append_right _ (List.mem_append_left _ h))) tyX5 tyX5_ok nmX5 hown hK hP hD hS 0 rfl rfl 5 (by decide) (hts (.fieldLink RX5 64 "SagMemory$Sets" "smallest" "I") (wl_mem 1 rfl)) (fun _ h9 => h9) rfl (by decide +kernel) rfl rfl (Nat.le_of_ble_eq_true rfl) dX5_add_23 (fun H locs hP hD hS => ?_)
    have hP : va_P (dC, dI) vwCl (List.flatten [(wSets qE k (va_up vE 3 p1) cE aE)] ++ List.flatten ([] : List va_W)) H := hP
    have hD : va_D A (List.flatten [(wSets qE k (va_up vE 3 p1) cE aE)] ++ List.flatten ([] : List va_W)) := hD
    exact ct26_kz14 H locs ls (va_up vE 3 p1)   hP hD hS (lv_sub hl [0, 1] rfl)
  refine lv_if_eq (tgt := 21) hx hb dX5_add_4 (by decide) (fun cz63 => ?_) (fun cz63 => ?_)
  · skip
    have zz64 : (vE 0).toInt = (0 : Int) := zi_eq.mp cz63
    exact ct21_kz62 s.heap [] ls   hP hD hS (lv_sub hl [0, 1] rfl)
  · skip
    have zz65 : ¬ (vE 0).toInt = (0 : Int) := fun h9 => cz63 (zi_eq.mpr h9)
    refine lv_iload_n hx hb dX5_add_7 rfl (lv_at hl 1 rfl) ?_
    have hPc : va_P (dC, dI) vwCl (List.flatten ([] : List va_W)) s.heap := fun k q h => by simp at h
    refine vp_callSi (va_Run.run (va_runS (As := [.int p1]) (rest := []) ⟨hx, hb, hml, hown, hts⟩ (c_J6_bitCount_0f7a4 l dC dI k p1) (va_cwS 1 hts (gk_S (wl_mem 2 rfl) (wl_mem 3 rfl) (wl_mem 4 rfl) (fun w h => List.mem_cons_of_mem _ (List.mem_append_right _ (List.mem_append_right _ (List.mem_append_left _ h)))) wkg_c_J6_bitCount_0f7a4) rfl rfl rfl (by decide +kernel) ⟨Nat.le_of_ble_eq_true rfl, Nat.le_of_ble_eq_true rfl⟩) ⟨fun a U g mk q => by obtain ⟨q0, qP, qK⟩ := q; exact ⟨q0, qP, va_K.moved (u := U) (U := U.calling g mk a) (Vm.Alike.refl U.vm) qK⟩, fun U hU hW => ⟨rfl, by rw [hU]; exact hPc, va_K.moved hW.alike hK⟩⟩ rfl rfl hl.1 rfl (lv_room (Nat.le_of_ble_eq_true rfl)) dX5_add_8 ⟨Nat.le_of_ble_eq_true rfl, Nat.le_of_ble_eq_true rfl⟩)) (fun rz67 gz66 => ?_)
    clear hPc
    have pz68 := gz66
    have pz68 : 0 ≤ rz67.toInt ∧ rz67.toInt ≤ 63 := pz68
    refine lv_aload_n hx hb dX5_add_11 rfl (lv_at hl 0 rfl) ?_
    refine va_get (D := (dC, dI)) (ci := 5) (v := .int (vE 3)) (C := RX5) (T := TX5) (N := 6) hx hb hts (fun w h => List.mem_cons_of_mem _ (List.mem_append_right _ (List.mem_append_left _ h))) hown hK hP 0 rfl rfl 5 (by decide) (hts (.fieldLink RX5 64 "SagMemory$Sets" "smallest" "I") (wl_mem 1 rfl)) (fun _ h9 => h9) rfl dX5_add_12 ?_
    have hPc : va_P (dC, dI) vwCl (List.flatten ([] : List va_W)) s.heap := fun k q h => by simp at h
    refine vp_callSi (va_Run.run (va_runS (As := [.int (vE 3)]) (rest := [.int rz67]) ⟨hx, hb, hml, hown, hts⟩ (c_J6_bitCount_0f7a4 l dC dI k (vE 3)) (va_cwS 1 hts (gk_S (wl_mem 2 rfl) (wl_mem 3 rfl) (wl_mem 4 rfl) (fun w h => List.mem_cons_of_mem _ (List.mem_append_right _ (List.mem_append_right _ (List.mem_append_left _ h)))) wkg_c_J6_bitCount_0f7a4) rfl rfl rfl (by decide +kernel) ⟨Nat.le_of_ble_eq_true rfl, Nat.le_of_ble_eq_true rfl⟩) ⟨fun a U g mk q => by obtain ⟨q0, qP, qK⟩ := q; exact ⟨q0, qP, va_K.moved (u := U) (U := U.calling g mk a) (Vm.Alike.refl U.vm) qK⟩, fun U hU hW => ⟨rfl, by rw [hU]; exact hPc, va_K.moved hW.alike hK⟩⟩ rfl rfl hl.1 rfl (lv_room (Nat.le_of_ble_eq_true rfl)) dX5_add_15 ⟨Nat.le_of_ble_eq_true rfl, Nat.le_of_ble_eq_true rfl⟩)) (fun rz70 gz69 => ?_)
    clear hPc
    have pz71 := gz69
    have pz71 : 0 ≤ rz70.toInt ∧ rz70.toInt ≤ 63 := pz71
    refine lv_icmp_ge (tgt := 26) hx hb dX5_add_18 (by decide) (fun cz72 => ?_) (fun cz72 => ?_)
    · skip
      have zz73 : rz70.toInt ≤ rz67.toInt := zi_le.mp cz72
      exact ct26_kz14 s.heap [] ls vE   hP hD hS (lv_sub hl [0, 1] rfl)
    · skip
      have zz74 : ¬ rz70.toInt ≤ rz67.toInt := fun h9 => cz72 (zi_le.mpr h9)
      exact ct21_kz62 s.heap [] ls   hP hD hS (lv_sub hl [0, 1] rfl)
def wk_c_X5_leftBy : List Cond := .code yX5_leftBy cX5_leftBy 2 (some .int) :: ([.fieldLink RX5 55 "SagMemory$Sets" "found" "I", .fieldLink RX5 29 "SagMemory$Sets" "carts" "I", .fieldLink RX5 9 "SagMemory$Sets" "with" "[I", .methodLink RX5 75 Lib.Math.max.name, .static Lib.Math.max.name, .initialized "java/lang/Math", .code Lib.Math.max.name Lib.Math.max.code 2 (some .int)] ++ (wsX50 ++ []))
theorem wkg_c_X5_leftBy : wk_c_X5_leftBy.all goodWord = true := by decide +kernel
set_option maxHeartbeats 4000000 in
set_option maxRecDepth 100000 in
theorem c_X5_leftBy (l : Launch) (dC : Nat → ClassId) (dI : Nat → Nat → Nat) (k : Nat → ClassId) (qE : Nat → Nat) (vE : Nat → Int32) (cE : Nat → Int32) (aE : Nat → Nat → Int32) (p1 : Int32) (hcE : Rg 0 7 cE) : Met l yX5_leftBy wk_c_X5_leftBy ({ frames := 1, cells := 0, slots := 0, locals := 80 }) (va_Pc [.ref (qE 0), .int p1] (fun U => va_P (dC, dI) vwCl (List.flatten [(wSets qE k vE cE aE)]) U.heap ∧ va_K (dC, dI) vwCl (tK k) U)) (vp_Si (fun r : Int32 => True)) 0 0 (fun _ => False) := by
  refine Met.ofW (cc := cX5_leftBy) (maxL := 2) (ret := (some .int)) (by decide) rfl ?_
  intro p e s m args below meth c s₁ B hml hv
  obtain ⟨rfl, hP, hK⟩ := hv
  have hx := B.exec
  have hb := B.bytes
  have hr := B.returns
  have hts := atoms_spec (ws := wk_c_X5_leftBy) B.pre
  have hown : s.vm.findClass RX5 = some m.cls := findClass_of_methodNamed B.named
  have hlocks := B.notSynchronized
  have hP : va_P (dC, dI) vwCl (List.flatten [(wSets qE k vE cE aE)]) s.heap := hP
  have hl := lv_entry ([.ref (qE 0), .int p1]) (n := 2) (Nat.le_of_ble_eq_true rfl)
  rw [lg_entry_eq]
  generalize (lg_sl ([.ref (qE 0), .int p1]) ++ List.replicate (2 - (lg_sl ([.ref (qE 0), .int p1])).length) Slot.unset).toArray = ls at hl ⊢
  have hl : lv_has ls 2 [(0, .ref (qE 0)), (1, .int p1)] := hl
  refine w_gen (fun Q hQ => ?_)
  refine lv_iload_n hx hb dX5_leftBy_0 rfl (lv_at hl 1 rfl) ?_
  refine lv_if_lt (tgt := 12) hx hb dX5_leftBy_1 (by decide) (fun cz1 => ?_) (fun cz1 => ?_)
  · skip
    have bz2 := fb_rng p1
    have zz3 : p1.toInt < (0 : Int) := zi_lt.mp cz1
    refine lv_aload_n hx hb dX5_leftBy_12 rfl (lv_at hl 0 rfl) ?_
    refine va_get (D := (dC, dI)) (ci := 5) (v := .int (vE 0)) (C := RX5) (T := TX5) (N := 6) hx hb hts (fun w h => List.mem_cons_of_mem _ (List.mem_append_right _ (List.mem_append_left _ h))) hown hK hP 0 rfl rfl 2 (by decide) (hts (.fieldLink RX5 55 "SagMemory$Sets" "found" "I") (wl_mem 0 rfl)) (fun _ h9 => h9) rfl dX5_leftBy_13 ?_
    rw [hQ]
    exact W.iret (v := (vE 0)) hx hb hr (fun t ht hW => ⟨(vE 0), rfl, trivial, ht⟩) (fun _ h => absurd h List.not_mem_nil) dX5_leftBy_16
  · skip
    have bz4 := fb_rng p1
    have zz5 : ¬ p1.toInt < (0 : Int) := fun h9 => cz1 (zi_lt.mpr h9)
    refine lv_iload_n hx hb dX5_leftBy_4 rfl (lv_at hl 1 rfl) ?_
    refine lv_aload_n hx hb dX5_leftBy_5 rfl (lv_at hl 0 rfl) ?_
    refine va_get (D := (dC, dI)) (ci := 5) (v := .int (cE 0)) (C := RX5) (T := TX5) (N := 6) hx hb hts (fun w h => List.mem_cons_of_mem _ (List.mem_append_right _ (List.mem_append_left _ h))) hown hK hP 0 rfl rfl 1 (by decide) (hts (.fieldLink RX5 29 "SagMemory$Sets" "carts" "I") (wl_mem 1 rfl)) (fun _ h9 => h9) rfl dX5_leftBy_6 ?_
    have bz6 := hcE 0
    refine lv_icmp_lt (tgt := 17) hx hb dX5_leftBy_9 (by decide) (fun cz7 => ?_) (fun cz7 => ?_)
    · skip
      have zz8 : p1.toInt < (cE 0).toInt := zi_lt.mp cz7
      refine lv_aload_n hx hb dX5_leftBy_17 rfl (lv_at hl 0 rfl) ?_
      refine va_get (D := (dC, dI)) (ci := 5) (v := .ref (qE 1)) (C := RX5) (T := TX5) (N := 6) hx hb hts (fun w h => List.mem_cons_of_mem _ (List.mem_append_right _ (List.mem_append_left _ h))) hown hK hP 0 rfl rfl 0 (by decide) (hts (.fieldLink RX5 9 "SagMemory$Sets" "with" "[I") (wl_mem 2 rfl)) (fun _ h9 => h9) rfl dX5_leftBy_18 ?_
      refine lv_iload_n hx hb dX5_leftBy_21 rfl (lv_at hl 1 rfl) ?_
      refine va_iald hx hb hK hP 1 0 rfl rfl (vp_in_iff.mpr ⟨by omega, by omega⟩) dX5_leftBy_22 ?_
      refine lv_topi (fun xz9 exz9 => ?_)
      refine lv_aload_n hx hb dX5_leftBy_23 rfl (lv_at hl 0 rfl) ?_
      refine va_get (D := (dC, dI)) (ci := 5) (v := .int (vE 0)) (C := RX5) (T := TX5) (N := 6) hx hb hts (fun w h => List.mem_cons_of_mem _ (List.mem_append_right _ (List.mem_append_left _ h))) hown hK hP 0 rfl rfl 2 (by decide) (hts (.fieldLink RX5 55 "SagMemory$Sets" "found" "I") (wl_mem 0 rfl)) (fun _ h9 => h9) rfl dX5_leftBy_24 ?_
      refine lv_aload_n hx hb dX5_leftBy_27 rfl (lv_at hl 0 rfl) ?_
      refine va_get (D := (dC, dI)) (ci := 5) (v := .ref (qE 1)) (C := RX5) (T := TX5) (N := 6) hx hb hts (fun w h => List.mem_cons_of_mem _ (List.mem_append_right _ (List.mem_append_left _ h))) hown hK hP 0 rfl rfl 0 (by decide) (hts (.fieldLink RX5 9 "SagMemory$Sets" "with" "[I") (wl_mem 2 rfl)) (fun _ h9 => h9) rfl dX5_leftBy_28 ?_
      refine lv_iload_n hx hb dX5_leftBy_31 rfl (lv_at hl 1 rfl) ?_
      refine va_iald hx hb hK hP 1 0 rfl rfl (vp_in_iff.mpr ⟨by omega, by omega⟩) dX5_leftBy_32 ?_
      refine lv_topi (fun xz10 exz10 => ?_)
      refine lv_isub hx hb dX5_leftBy_33 ?_
      refine lv_topi (fun xz11 exz11 => ?_)
      refine va_mmax hx hb (by rw [hml]; exact hl.1.symm) hown (hts (.methodLink RX5 75 Lib.Math.max.name) (wl_mem 3 rfl)) (hts (.static Lib.Math.max.name) (wl_mem 4 rfl)) (hts (.initialized "java/lang/Math") (wl_mem 5 rfl)) (hts (.code Lib.Math.max.name Lib.Math.max.code 2 (some .int)) (wl_mem 6 rfl)) (Nat.le_of_ble_eq_true rfl) (Nat.le_of_ble_eq_true rfl) (Nat.zero_le _) (Nat.zero_le _) dX5_leftBy_34 ?_
      refine lv_topi (fun xz12 exz12 => ?_)
      rw [hQ]
      exact W.iret (v := xz12) hx hb hr (fun t ht hW => ⟨xz12, rfl, trivial, ht⟩) (fun _ h => absurd h List.not_mem_nil) dX5_leftBy_37
    · skip
      have zz13 : ¬ p1.toInt < (cE 0).toInt := fun h9 => cz7 (zi_lt.mpr h9)
      refine lv_aload_n hx hb dX5_leftBy_12 rfl (lv_at hl 0 rfl) ?_
      refine va_get (D := (dC, dI)) (ci := 5) (v := .int (vE 0)) (C := RX5) (T := TX5) (N := 6) hx hb hts (fun w h => List.mem_cons_of_mem _ (List.mem_append_right _ (List.mem_append_left _ h))) hown hK hP 0 rfl rfl 2 (by decide) (hts (.fieldLink RX5 55 "SagMemory$Sets" "found" "I") (wl_mem 0 rfl)) (fun _ h9 => h9) rfl dX5_leftBy_13 ?_
      rw [hQ]
      exact W.iret (v := (vE 0)) hx hb hr (fun t ht hW => ⟨(vE 0), rfl, trivial, ht⟩) (fun _ h => absurd h List.not_mem_nil) dX5_leftBy_16
def wk_c_X5_question : List Cond := .code yX5_question cX5_question 3 (some .int) :: ([.fieldLink RX5 29 "SagMemory$Sets" "carts" "I", .methodLink RX5 72 yX5_leftBy, .instanceMethod yX5_leftBy, .selects RX5 yX5_leftBy yX5_leftBy, .initialized RX5] ++ (wsX50 ++ (wk_c_X5_leftBy ++ [])))
theorem wkg_c_X5_question : wk_c_X5_question.all goodWord = true := by decide +kernel
set_option maxHeartbeats 4000000 in
set_option maxRecDepth 100000 in
theorem c_X5_question (l : Launch) (dC : Nat → ClassId) (dI : Nat → Nat → Nat) (k : Nat → ClassId) (qE : Nat → Nat) (vE : Nat → Int32) (cE : Nat → Int32) (aE : Nat → Nat → Int32) (hcE : Rg 0 7 cE) : Met l yX5_question wk_c_X5_question ({ frames := 2, cells := 0, slots := 0, locals := 101 }) (va_Pc [.ref (qE 0)] (fun U => va_P (dC, dI) vwCl (List.flatten [(wSets qE k vE cE aE)]) U.heap ∧ va_K (dC, dI) vwCl (tK k) U)) (vp_Si (fun r : Int32 => True)) 0 0 (fun _ => False) := by
  refine Met.ofW (cc := cX5_question) (maxL := 3) (ret := (some .int)) (by decide) rfl ?_
  intro p e s m args below meth c s₁ B hml hv
  obtain ⟨rfl, hP, hK⟩ := hv
  have hx := B.exec
  have hb := B.bytes
  have hr := B.returns
  have hts := atoms_spec (ws := wk_c_X5_question) B.pre
  have hown : s.vm.findClass RX5 = some m.cls := findClass_of_methodNamed B.named
  have hlocks := B.notSynchronized
  have hP : va_P (dC, dI) vwCl (List.flatten [(wSets qE k vE cE aE)]) s.heap := hP
  have hl := lv_entry ([.ref (qE 0)]) (n := 3) (Nat.le_of_ble_eq_true rfl)
  rw [lg_entry_eq]
  generalize (lg_sl ([.ref (qE 0)]) ++ List.replicate (3 - (lg_sl ([.ref (qE 0)])).length) Slot.unset).toArray = ls at hl ⊢
  have hl : lv_has ls 3 [(0, .ref (qE 0))] := hl
  refine w_gen (fun Q hQ => ?_)
  refine lv_iconst (v := (-1)) hx hb dX5_question_0 (by decide) ?_
  refine lv_istore_n (lv' := [(1, .int (-1)), (0, .ref (qE 0))]) hx hb dX5_question_1 rfl hl (by decide) rfl (fun ls hl => ?_)
  refine lv_iconst (v := 0) hx hb dX5_question_2 (by decide) ?_
  refine lv_istore_n (lv' := [(2, .int 0), (1, .int (-1)), (0, .ref (qE 0))]) hx hb dX5_question_3 rfl hl (by decide) rfl (fun ls hl => ?_)
  have lp4_kz32 : ∀ (n9_4 : Nat) (ls : Array Slot) (xz30 : Int32) (xz31 : Int32), (2147483647 - xz31.toInt).toNat < n9_4 → 0 ≤ xz31.toInt → lv_has ls 3 [(0, .ref (qE 0)), (1, .int xz30), (2, .int xz31)] → W p l e (headSpec wk_c_X5_question ({ frames := 2, cells := 0, slots := 0, locals := 101 })).room s m ([.ref (qE 0)] : List Value).toArray below meth c s.heap [] 0 0 Q (F0 m 4 ls []) := by
    intro n9_4
    induction n9_4 with
    | zero => intro ls xz30 xz31 hm; exact absurd hm (Nat.not_lt_zero _)
    | succ n9_4 ih4 =>
      intro ls xz30 xz31 hm4 jz33 hl
      refine lv_iload_n hx hb dX5_question_4 rfl (lv_at hl 2 rfl) ?_
      refine lv_aload_n hx hb dX5_question_5 rfl (lv_at hl 0 rfl) ?_
      refine va_get (D := (dC, dI)) (ci := 5) (v := .int (cE 0)) (C := RX5) (T := TX5) (N := 6) hx hb hts (fun w h => List.mem_cons_of_mem _ (List.mem_append_right _ (List.mem_append_left _ h))) hown hK hP 0 rfl rfl 1 (by decide) (hts (.fieldLink RX5 29 "SagMemory$Sets" "carts" "I") (wl_mem 0 rfl)) (fun _ h9 => h9) rfl dX5_question_6 ?_
      have bz34 := hcE 0
      refine lv_icmp_ge (tgt := 33) hx hb dX5_question_9 (by decide) (fun cz35 => ?_) (fun cz35 => ?_)
      · skip
        have bz36 := fb_rng xz31
        have zz37 : (cE 0).toInt ≤ xz31.toInt := zi_le.mp cz35
        refine lv_iload_n hx hb dX5_question_33 rfl (lv_at hl 1 rfl) ?_
        rw [hQ]
        exact W.iret (v := xz30) hx hb hr (fun t ht hW => ⟨xz30, rfl, trivial, ht⟩) (fun _ h => absurd h List.not_mem_nil) dX5_question_34
      · skip
        have bz38 := fb_rng xz31
        have zz39 : ¬ (cE 0).toInt ≤ xz31.toInt := fun h9 => cz35 (zi_le.mpr h9)
        refine lv_aload_n hx hb dX5_question_12 rfl (lv_at hl 0 rfl) ?_
        refine lv_iload_n hx hb dX5_question_13 rfl (lv_at hl 2 rfl) ?_
        have hPc := hP
        refine vp_callSi (va_Run.run (va_runV (As := [.int xz31]) (rest := []) ⟨hx, hb, hml, hown, hts⟩ (c_X5_leftBy l dC dI k qE vE cE aE xz31 hcE) (cwV 1 hts (gk_V (wl_mem 1 rfl) (wl_mem 2 rfl) (wl_mem 3 rfl) (wl_mem 4 rfl) (fun w h => List.mem_cons_of_mem _ (List.mem_append_right _ (List.mem_append_right _ (List.mem_append_left _ h)))) wkg_c_X5_leftBy) rfl rfl rfl (by decide +kernel) ⟨Nat.le_of_ble_eq_true rfl, Nat.le_of_ble_eq_true rfl⟩) ⟨fun a U g mk q => by obtain ⟨q0, qP, qK⟩ := q; exact ⟨q0, qP, va_K.moved (u := U) (U := U.calling g mk a) (Vm.Alike.refl U.vm) qK⟩, va_recv hK hPc (ci := 5) (q0 := 0) rfl rfl, fun U hU hW => ⟨rfl, by rw [hU]; exact hPc, va_K.moved hW.alike hK⟩⟩ rfl rfl hl.1 rfl (lv_room (Nat.le_of_ble_eq_true rfl)) dX5_question_14 ⟨Nat.le_of_ble_eq_true rfl, Nat.le_of_ble_eq_true rfl⟩)) (fun rz41 gz40 => ?_)
        clear hPc
        refine lv_aload_n hx hb dX5_question_17 rfl (lv_at hl 0 rfl) ?_
        refine lv_iload_n hx hb dX5_question_18 rfl (lv_at hl 1 rfl) ?_
        have hPc := hP
        refine vp_callSi (va_Run.run (va_runV (As := [.int xz30]) (rest := [.int rz41]) ⟨hx, hb, hml, hown, hts⟩ (c_X5_leftBy l dC dI k qE vE cE aE xz30 hcE) (cwV 1 hts (gk_V (wl_mem 1 rfl) (wl_mem 2 rfl) (wl_mem 3 rfl) (wl_mem 4 rfl) (fun w h => List.mem_cons_of_mem _ (List.mem_append_right _ (List.mem_append_right _ (List.mem_append_left _ h)))) wkg_c_X5_leftBy) rfl rfl rfl (by decide +kernel) ⟨Nat.le_of_ble_eq_true rfl, Nat.le_of_ble_eq_true rfl⟩) ⟨fun a U g mk q => by obtain ⟨q0, qP, qK⟩ := q; exact ⟨q0, qP, va_K.moved (u := U) (U := U.calling g mk a) (Vm.Alike.refl U.vm) qK⟩, va_recv hK hPc (ci := 5) (q0 := 0) rfl rfl, fun U hU hW => ⟨rfl, by rw [hU]; exact hPc, va_K.moved hW.alike hK⟩⟩ rfl rfl hl.1 rfl (lv_room (Nat.le_of_ble_eq_true rfl)) dX5_question_19 ⟨Nat.le_of_ble_eq_true rfl, Nat.le_of_ble_eq_true rfl⟩)) (fun rz43 gz42 => ?_)
        clear hPc
        have ct27_kz52 : ∀ (ls : Array Slot) (xz51 : Int32), lv_has ls 3 [(0, .ref (qE 0)), (1, .int xz51), (2, .int xz31)] → W p l e (headSpec wk_c_X5_question ({ frames := 2, cells := 0, slots := 0, locals := 101 })).room s m ([.ref (qE 0)] : List Value).toArray below meth c s.heap [] 0 0 Q (F0 m 27 ls []) := by
          intro ls xz51  hl
          obtain ⟨xz53, exz53⟩ : ∃ y : Int32, y = xz31 + Int32.ofInt (1) := ⟨_, rfl⟩
          have fxz53 : xz53.toInt = xz31.toInt + (1) := by rw [exz53]; exact fb_addI (y := Int32.ofInt (1)) (by show -2147483648 ≤ xz31.toInt + (1); omega) (by show xz31.toInt + (1) < 2147483648; omega)
          refine lv_iinc (v := xz53) (lv' := [(2, .int xz53), (0, .ref (qE 0)), (1, .int xz51)]) hx hb dX5_question_27 hl (k := 2) rfl exz53.symm (by decide) rfl (fun ls hl => ?_)
          refine lv_goto (tgt := 4) hx hb dX5_question_30 (by decide) ?_
          exact ih4 ls xz51 xz53 (by show (2147483647 - xz53.toInt).toNat < n9_4; omega) (by show 0 ≤ xz53.toInt; omega) (lv_sub hl [1, 2, 0] rfl)
        refine lv_icmp_ge (tgt := 27) hx hb dX5_question_22 (by decide) (fun cz54 => ?_) (fun cz54 => ?_)
        · skip
          have bz55 := fb_rng rz43
          have bz56 := fb_rng rz41
          have zz57 : rz43.toInt ≤ rz41.toInt := zi_le.mp cz54
          exact ct27_kz52 ls xz30   (lv_sub hl [0, 1, 2] rfl)
        · skip
          have bz58 := fb_rng rz43
          have bz59 := fb_rng rz41
          have zz60 : ¬ rz43.toInt ≤ rz41.toInt := fun h9 => cz54 (zi_le.mpr h9)
          refine lv_iload_n hx hb dX5_question_25 rfl (lv_at hl 2 rfl) ?_
          refine lv_istore_n (lv' := [(1, .int xz31), (0, .ref (qE 0)), (2, .int xz31)]) hx hb dX5_question_26 rfl hl (by decide) rfl (fun ls hl => ?_)
          exact ct27_kz52 ls xz31   (lv_sub hl [1, 0, 2] rfl)
  exact lp4_kz32 _ ls (-1 : Int32) (0 : Int32) (Nat.lt_succ_self _) (by show 0 ≤ (0 : Int); omega) (lv_sub hl [2, 1, 0] rfl)
def wk_c_X5_seek : List Cond := .code yX5_seek cX5_seek 8 none :: ([.methodLink RX5 15 yX10_cartsBy, .instanceMethod yX10_cartsBy, .selects RX10 yX10_cartsBy yX10_cartsBy, .initialized RX10, .fieldLink RX5 21 "SagMemory$Valley" "carts" "I", .methodLink RX5 25 yX5_begin, .instanceMethod yX5_begin, .selects RX5 yX5_begin yX5_begin, .initialized RX5, .fieldLink RX5 29 "SagMemory$Sets" "carts" "I", .fieldLink RX5 30 "SagMemory$Memory" "size" "I", .fieldLink RX5 35 "SagMemory$Valley" "loads" "[I", .fieldLink RX5 38 "SagMemory$Valley" "law" "I", .methodLink RX5 41 yX2_pass, .instanceMethod yX2_pass, .selects RX2 yX2_pass yX2_pass, .initialized RX2, .methodLink RX5 45 yX6_isLeftIn, .instanceMethod yX6_isLeftIn, .selects RX6 yX6_isLeftIn yX6_isLeftIn, .initialized RX6, .methodLink RX5 51 yX5_add, .instanceMethod yX5_add, .selects RX5 yX5_add yX5_add] ++ (wk_c_X10_cartsBy ++ (wsX100 ++ (wk_c_X5_begin ++ (wsX50 ++ (wsX20 ++ (wk_c_X2_pass ++ (wk_c_X6_isLeftIn ++ (wk_c_X5_add ++ [])))))))))
theorem wkg_c_X5_seek : wk_c_X5_seek.all goodWord = true := by decide +kernel
set_option maxHeartbeats 4000000 in
set_option maxRecDepth 100000 in
theorem c_X5_seek (l : Launch) (dC : Nat → ClassId) (dI : Nat → Nat → Nat) (k : Nat → ClassId) (sz : Nat) (qE : Nat → Nat) (vE : Nat → Int32) (cE : Nat → Int32) (aE : Nat → Nat → Int32) (qV : Nat → Nat) (vV : Nat → Int32) (bV : Nat → Int32) (cV : Nat → Int32) (wV : Nat → Int32) (aV : Nat → Nat → Int32) (eV : Nat → Nat → Int32) (qL : Nat → Nat) (vL : Nat → Int32) (sL : Nat → Int32) (lL : Nat → Nat → Int64) (qM : Nat → Nat) (nM : Nat → Int32) (aM : Nat → Nat → Int32) (p2 : Int32) (hcE : Rg 0 7 cE) (hbV : Rg 0 3 bV) (hcV : Rg 0 7 cV) (hwV : Rg 0 5 wV) (heV : RgA 0 99 eV) (hsL : Rg 0 60 sL) (hnM : Rg 0 8 nM) : Met l yX5_seek wk_c_X5_seek ({ frames := 2, cells := 0, slots := 0, locals := 42 }) (va_Pc [.ref (qE 0), .ref (qV 0), .int p2, .ref (qL 0), .ref (qM 0)] (fun U => U.heap.size = sz ∧ va_P (dC, dI) vwCl (List.flatten [(wSets qE k vE cE aE), (wMem qM k nM aM)] ++ List.flatten [(wValley qV k vV bV cV wV aV eV), (wSlot qL k vL sL lL)]) U.heap ∧ va_K (dC, dI) vwCl (tK k) U ∧ va_D (fun _ => True) (List.flatten [(wSets qE k vE cE aE), (wMem qM k nM aM)] ++ List.flatten [(wValley qV k vV bV cV wV aV eV), (wSlot qL k vL sL lL)]))) (va_Qv (fun _ : Unit => True) (fun (_ : Unit) (t : State) => ∃ (vE' : Nat → Int32) (cE' : Nat → Int32) (aE' : Nat → Nat → Int32) (nM' : Nat → Int32) (aM' : Nat → Nat → Int32), Rg 0 7 cE' ∧ Rg 0 8 nM' ∧ va_P (dC, dI) vwCl (List.flatten [(wSets qE k vE' cE' aE'), (wMem qM k nM' aM')] ++ List.flatten [(wValley qV k vV bV cV wV aV eV), (wSlot qL k vL sL lL)]) t.heap) (va_A (List.flatten [(wSets qE k vE cE aE), (wMem qM k nM aM)] ++ List.flatten [(wValley qV k vV bV cV wV aV eV), (wSlot qL k vL sL lL)]) sz)) 0 0 (va_A (List.flatten [(wSets qE k vE cE aE), (wMem qM k nM aM)] ++ List.flatten [(wValley qV k vV bV cV wV aV eV), (wSlot qL k vL sL lL)]) sz) := by
  refine Met.ofW (cc := cX5_seek) (maxL := 8) (ret := none) (by decide) rfl ?_
  intro p e s m args below meth c s₁ B hml hv
  obtain ⟨rfl, hsz, hP, hK, hD0⟩ := hv
  have hx := B.exec
  have hb := B.bytes
  have hr := B.returns
  have hts := atoms_spec (ws := wk_c_X5_seek) B.pre
  have hown : s.vm.findClass RX5 = some m.cls := findClass_of_methodNamed B.named
  have hlocks := B.notSynchronized
  subst hsz
  have hD := hD0.self (sz := s.heap.size)
  generalize hAe : va_A (List.flatten [(wSets qE k vE cE aE), (wMem qM k nM aM)] ++ List.flatten [(wValley qV k vV bV cV wV aV eV), (wSlot qL k vL sL lL)]) s.heap.size = A at hD ⊢
  have hA : ∀ q : Nat, s.heap.size ≤ q → A q := fun q h => by rw [← hAe]; exact Or.inr h
  have hS : va_S A s.heap s.heap [] := va_S.rf
  have hP : va_P (dC, dI) vwCl (List.flatten [(wSets qE k vE cE aE), (wMem qM k nM aM)] ++ List.flatten [(wValley qV k vV bV cV wV aV eV), (wSlot qL k vL sL lL)]) s.heap := hP
  have hl := lv_entry ([.ref (qE 0), .ref (qV 0), .int p2, .ref (qL 0), .ref (qM 0)]) (n := 8) (Nat.le_of_ble_eq_true rfl)
  rw [lg_entry_eq]
  generalize (lg_sl ([.ref (qE 0), .ref (qV 0), .int p2, .ref (qL 0), .ref (qM 0)]) ++ List.replicate (8 - (lg_sl ([.ref (qE 0), .ref (qV 0), .int p2, .ref (qL 0), .ref (qM 0)])).length) Slot.unset).toArray = ls at hl ⊢
  have hl : lv_has ls 8 [(0, .ref (qE 0)), (1, .ref (qV 0)), (2, .int p2), (3, .ref (qL 0)), (4, .ref (qM 0))] := hl
  refine w_gen (fun Q hQ => ?_)
  refine lv_aload_n hx hb dX5_seek_0 rfl (lv_at hl 1 rfl) ?_
  refine lv_iload_n hx hb dX5_seek_1 rfl (lv_at hl 2 rfl) ?_
  have hPc := hP.sub (ws' := (List.flatten [(wValley qV k vV bV cV wV aV eV)])) [5, 6, 7, 8, 9, 10, 11, 12] rfl
  refine vp_callSi (va_Run.run (va_runV (As := [.int p2]) (rest := []) ⟨hx, hb, hml, hown, hts⟩ (c_X10_cartsBy l dC dI k qV vV bV cV wV aV eV p2 hbV hcV hwV heV) (cwV 1 hts (gk_V (wl_mem 0 rfl) (wl_mem 1 rfl) (wl_mem 2 rfl) (wl_mem 3 rfl) (fun w h => List.mem_cons_of_mem _ (List.mem_append_right _ (List.mem_append_left _ h))) wkg_c_X10_cartsBy) rfl rfl rfl (by decide +kernel) ⟨Nat.le_of_ble_eq_true rfl, Nat.le_of_ble_eq_true rfl⟩) ⟨fun a U g mk q => by obtain ⟨q0, qP, qK⟩ := q; exact ⟨q0, qP, va_K.moved (u := U) (U := U.calling g mk a) (Vm.Alike.refl U.vm) qK⟩, va_recv hK hPc (ci := 10) (q0 := 0) rfl rfl, fun U hU hW => ⟨rfl, by rw [hU]; exact hPc, va_K.moved hW.alike hK⟩⟩ rfl rfl hl.1 rfl (lv_room (Nat.le_of_ble_eq_true rfl)) dX5_seek_2 ⟨Nat.le_of_ble_eq_true rfl, Nat.le_of_ble_eq_true rfl⟩)) (fun rz2 gz1 => ?_)
  clear hPc
  refine lv_istore (lv' := [(5, .int rz2), (0, .ref (qE 0)), (1, .ref (qV 0)), (2, .int p2), (3, .ref (qL 0)), (4, .ref (qM 0))]) hx hb dX5_seek_5 hl (by decide) rfl (fun ls hl => ?_)
  refine lv_aload_n hx hb dX5_seek_7 rfl (lv_at hl 1 rfl) ?_
  refine lv_aload_n hx hb dX5_seek_8 rfl (lv_at hl 2 rfl) ?_
  refine va_get (D := (dC, dI)) (ci := 10) (v := .int (cV 0)) (C := RX10) (T := TX10) (N := 16) hx hb hts (fun w h => List.mem_cons_of_mem _ (List.mem_append_right _ (List.mem_append_right _ (List.mem_append_left _ h)))) hown hK hP 5 rfl rfl 12 (by decide) (hts (.fieldLink RX5 21 "SagMemory$Valley" "carts" "I") (wl_mem 4 rfl)) (fun _ h9 => h9) rfl dX5_seek_9 ?_
  have bz3 := hcV 0
  refine lv_iload hx hb dX5_seek_12 (lv_at hl 0 rfl) ?_
  have hPc := hP.sub (ws' := (List.flatten [(wSets qE k vE cE aE)] ++ List.flatten ([] : List va_W))) [0, 1] rfl
  have hC : [0, 1].map (fun i => (List.flatten [(wSets qE k vE cE aE), (wMem qM k nM aM)] ++ List.flatten [(wValley qV k vV bV cV wV aV eV), (wSlot qL k vL sL lL)])[i]?) = (List.flatten [(wSets qE k vE cE aE)] ++ List.flatten ([] : List va_W)).map some := rfl
  have hDc := hD.sub [0, 1] (by decide) hC
  have hFc := va_free hD hS hA [0, 1] hC
  refine va_callv (va_runV (As := [.int (cV 0), .int rz2]) (rest := []) ⟨hx, hb, hml, hown, hts⟩ (c_X5_begin l dC dI k s.heap.size qE vE cE aE (cV 0) rz2 hcE (by show 0 ≤ (cV 0).toInt ∧ (cV 0).toInt ≤ 7; omega)) (cwV 2 hts (gk_V (wl_mem 5 rfl) (wl_mem 6 rfl) (wl_mem 7 rfl) (wl_mem 8 rfl) (fun w h => List.mem_cons_of_mem _ (List.mem_append_right _ (List.mem_append_right _ (List.mem_append_right _ (List.mem_append_left _ h))))) wkg_c_X5_begin) rfl rfl rfl (by decide +kernel) ⟨Nat.le_of_ble_eq_true rfl, Nat.le_of_ble_eq_true rfl⟩) ⟨fun a U g mk q => by obtain ⟨q0, q1, qP, qK, qD⟩ := q; exact ⟨q0, q1, qP, va_K.moved (u := U) (U := U.calling g mk a) (Vm.Alike.refl U.vm) qK, qD⟩, va_recv hK hPc (ci := 5) (q0 := 0) rfl rfl, fun U hU hW => ⟨rfl, by rw [hU], by rw [hU]; exact hPc, va_K.moved hW.alike hK, hDc.weaken (fun _ _ _ _ => trivial)⟩⟩ rfl rfl hl.1 rfl (lv_room (Nat.le_of_ble_eq_true rfl)) dX5_seek_14 ⟨Nat.le_of_ble_eq_true rfl, Nat.le_of_ble_eq_true rfl⟩) hS (fun q _ h => hFc q h) hFc (fun u t H1 locs ht hvm gz4 hB hz1 hk1 hS => ?_)
  obtain ⟨vz6, cz7, az8, hcz7, hP1⟩ := hB
  rw [ht] at hP1
  obtain ⟨hP, hD⟩ := w_callR hP hD hk1 hP1 [0] rfl rfl (fun _ h => absurd h List.not_mem_nil) rfl [some 0, none] rfl rfl
  clear hPc hC hDc hFc hk1 hP1
  generalize H1 = H at hP hS ⊢
  have hP : va_P (dC, dI) vwCl (List.flatten [(wSets qE k vz6 cz7 az8), (wMem qM k nM aM)] ++ List.flatten [(wValley qV k vV bV cV wV aV eV), (wSlot qL k vL sL lL)]) H := hP
  have hD : va_D A (List.flatten [(wSets qE k vz6 cz7 az8), (wMem qM k nM aM)] ++ List.flatten [(wValley qV k vV bV cV wV aV eV), (wSlot qL k vL sL lL)]) := hD
  refine W.widen (k := 0) (n := 0) (Nat.le_refl 0) (Nat.le_refl 0) ?_
  refine lv_iconst (v := 0) hx hb dX5_seek_17 (by decide) ?_
  refine lv_istore (lv' := [(6, .int 0), (5, .int rz2), (0, .ref (qE 0)), (1, .ref (qV 0)), (2, .int p2), (3, .ref (qL 0)), (4, .ref (qM 0))]) hx hb dX5_seek_18 hl (by decide) rfl (fun ls hl => ?_)
  have lp20_kz199 : ∀ (n9_20 : Nat) (H : Heap) (locs : List Loc) (ls : Array Slot) (az193 : Nat → Nat → Int32) (cz194 : Nat → Int32) (vz195 : Nat → Int32) (az196 : Nat → Nat → Int32) (nz197 : Nat → Int32) (xz198 : Int32), (2147483647 - xz198.toInt).toNat < n9_20 → Rg 0 7 cz194 → Rg 0 8 nz197 → 0 ≤ xz198.toInt → va_P (dC, dI) vwCl (List.flatten [(wSets qE k vz195 cz194 az193), (wMem qM k nz197 az196)] ++ List.flatten [(wValley qV k vV bV cV wV aV eV), (wSlot qL k vL sL lL)]) H → va_D A (List.flatten [(wSets qE k vz195 cz194 az193), (wMem qM k nz197 az196)] ++ List.flatten [(wValley qV k vV bV cV wV aV eV), (wSlot qL k vL sL lL)]) → va_S A s.heap H locs → lv_has ls 8 [(0, .ref (qE 0)), (1, .ref (qV 0)), (3, .ref (qL 0)), (4, .ref (qM 0)), (5, .int rz2), (6, .int xz198)] → W p l e (headSpec wk_c_X5_seek ({ frames := 2, cells := 0, slots := 0, locals := 42 })).room s m ([.ref (qE 0), .ref (qV 0), .int p2, .ref (qL 0), .ref (qM 0)] : List Value).toArray below meth c H locs 0 0 Q (F0 m 20 ls []) := by
    intro n9_20
    induction n9_20 with
    | zero => intro H locs ls az193 cz194 vz195 az196 nz197 xz198 hm; exact absurd hm (Nat.not_lt_zero _)
    | succ n9_20 ih20 =>
      intro H locs ls az193 cz194 vz195 az196 nz197 xz198 hm20 hcz194 hnz197 jz200 hP hD hS hl
      refine lv_iload hx hb dX5_seek_20 (lv_at hl 5 rfl) ?_
      refine lv_iconst (v := 1) hx hb dX5_seek_22 (by decide) ?_
      refine lv_aload_n hx hb dX5_seek_23 rfl (lv_at hl 0 rfl) ?_
      refine va_get (D := (dC, dI)) (ci := 5) (v := .int (cz194 0)) (C := RX5) (T := TX5) (N := 6) hx hb hts (fun w h => List.mem_cons_of_mem _ (List.mem_append_right _ (List.mem_append_right _ (List.mem_append_right _ (List.mem_append_right _ (List.mem_append_left _ h)))))) hown hK hP 0 rfl rfl 1 (by decide) (hts (.fieldLink RX5 29 "SagMemory$Sets" "carts" "I") (wl_mem 9 rfl)) (fun _ h9 => h9) rfl dX5_seek_24 ?_
      have bz201 := hcz194 0
      refine lv_ishl hx hb dX5_seek_27 ?_
      refine lv_topi (fun xz202 exz202 => ?_)
      refine lv_icmp_ge (tgt := 115) hx hb dX5_seek_28 (by decide) (fun cz203 => ?_) (fun cz203 => ?_)
      · skip
        have bz204 := fb_rng xz202
        have bz205 := fb_rng xz198
        have zz206 : xz202.toInt ≤ xz198.toInt := zi_le.mp cz203
        rw [hQ]
        exact W.vret hx hb hr (fun t ht hW => ⟨⟨(), rfl, trivial, vz195, cz194, az193, nz197, az196, hcz194, hnz197, by rw [ht]; exact hP⟩, hS.F ht⟩) hS.2.2 dX5_seek_115
      · skip
        have bz207 := fb_rng xz202
        have bz208 := fb_rng xz198
        have zz209 : ¬ xz202.toInt ≤ xz198.toInt := fun h9 => cz203 (zi_le.mpr h9)
        refine lv_iload hx hb dX5_seek_31 (lv_at hl 5 rfl) ?_
        refine lv_iload hx hb dX5_seek_33 (lv_at hl 4 rfl) ?_
        refine lv_iconst (v := (-1)) hx hb dX5_seek_35 (by decide) ?_
        refine lv_ixor hx hb dX5_seek_36 ?_
        refine lv_topi (fun xz210 exz210 => ?_)
        refine lv_iand hx hb dX5_seek_37 ?_
        refine lv_topi (fun xz211 exz211 => ?_)
        have ct109_kz297 : ∀ (H : Heap) (locs : List Loc) (ls : Array Slot) (az292 : Nat → Nat → Int32) (cz293 : Nat → Int32) (vz294 : Nat → Int32) (az295 : Nat → Nat → Int32) (nz296 : Nat → Int32), Rg 0 7 cz293 → Rg 0 8 nz296 → va_P (dC, dI) vwCl (List.flatten [(wSets qE k vz294 cz293 az292), (wMem qM k nz296 az295)] ++ List.flatten [(wValley qV k vV bV cV wV aV eV), (wSlot qL k vL sL lL)]) H → va_D A (List.flatten [(wSets qE k vz294 cz293 az292), (wMem qM k nz296 az295)] ++ List.flatten [(wValley qV k vV bV cV wV aV eV), (wSlot qL k vL sL lL)]) → va_S A s.heap H locs → lv_has ls 8 [(0, .ref (qE 0)), (1, .ref (qV 0)), (3, .ref (qL 0)), (4, .ref (qM 0)), (5, .int rz2), (6, .int xz198)] → W p l e (headSpec wk_c_X5_seek ({ frames := 2, cells := 0, slots := 0, locals := 42 })).room s m ([.ref (qE 0), .ref (qV 0), .int p2, .ref (qL 0), .ref (qM 0)] : List Value).toArray below meth c H locs 0 0 Q (F0 m 109 ls []) := by
          intro H locs ls az292 cz293 vz294 az295 nz296 hcz293 hnz296 hP hD hS hl
          obtain ⟨xz298, exz298⟩ : ∃ y : Int32, y = xz198 + Int32.ofInt (1) := ⟨_, rfl⟩
          have fxz298 : xz298.toInt = xz198.toInt + (1) := by rw [exz298]; exact fb_addI (y := Int32.ofInt (1)) (by show -2147483648 ≤ xz198.toInt + (1); omega) (by show xz198.toInt + (1) < 2147483648; omega)
          refine lv_iinc (v := xz298) (lv' := [(6, .int xz298), (0, .ref (qE 0)), (1, .ref (qV 0)), (3, .ref (qL 0)), (4, .ref (qM 0)), (5, .int rz2)]) hx hb dX5_seek_109 hl (k := 5) rfl exz298.symm (by decide) rfl (fun ls hl => ?_)
          refine lv_goto (tgt := 20) hx hb dX5_seek_112 (by decide) ?_
          exact ih20 H locs ls az292 cz293 vz294 az295 nz296 xz298 (by show (2147483647 - xz298.toInt).toNat < n9_20; omega) hcz293 hnz296 (by show 0 ≤ xz298.toInt; omega) hP hD hS (lv_sub hl [1, 2, 3, 4, 5, 0] rfl)
        refine lv_if_ne (tgt := 109) hx hb dX5_seek_38 (by decide) (fun cz299 => ?_) (fun cz299 => ?_)
        · skip
          have zz300 : ¬ xz211.toInt = (0 : Int) := fun h9 => cz299 (zi_eq.mpr h9)
          exact ct109_kz297 H locs ls az193 cz194 vz195 az196 nz197  hcz194 hnz197 hP hD hS (lv_sub hl [0, 1, 2, 3, 4, 5] rfl)
        · skip
          have zz301 : xz211.toInt = (0 : Int) := zi_eq.mp cz299
          refine lv_aload hx hb dX5_seek_41 (lv_at hl 3 rfl) ?_
          refine lv_iconst (v := 0) hx hb dX5_seek_43 (by decide) ?_
          refine va_put (D := (dC, dI)) (ci := 2) (v := .int 0) (ty := .int) (C := RX2) (T := TX2) (N := 3) hx hb hts (fun w h => List.mem_cons_of_mem _ (List.mem_append_right _ (List.mem_append_right _ (List.mem_append_right _ (List.mem_append_right _ (List.mem_append_right _ (List.mem_append_left _ h))))))) tyX2 tyX2_ok nmX2 hown hK hP hD hS 2 rfl rfl 2 (by decide) (hts (.fieldLink RX5 30 "SagMemory$Memory" "size" "I") (wl_mem 10 rfl)) (fun _ h9 => h9) rfl (by decide +kernel) rfl rfl (Nat.le_of_ble_eq_true rfl) dX5_seek_44 (fun H locs hP hD hS => ?_)
          have hP : va_P (dC, dI) vwCl (List.flatten [(wSets qE k vz195 cz194 az193), (wMem qM k (va_up nz197 0 (0 : Int32)) az196)] ++ List.flatten [(wValley qV k vV bV cV wV aV eV), (wSlot qL k vL sL lL)]) H := hP
          have hD : va_D A (List.flatten [(wSets qE k vz195 cz194 az193), (wMem qM k (va_up nz197 0 (0 : Int32)) az196)] ++ List.flatten [(wValley qV k vV bV cV wV aV eV), (wSlot qL k vL sL lL)]) := hD
          refine lv_iconst (v := 0) hx hb dX5_seek_47 (by decide) ?_
          refine lv_istore (lv' := [(7, .int 0), (0, .ref (qE 0)), (1, .ref (qV 0)), (3, .ref (qL 0)), (4, .ref (qM 0)), (5, .int rz2), (6, .int xz198)]) hx hb dX5_seek_48 hl (by decide) rfl (fun ls hl => ?_)
          have lp50_kz339 : ∀ (n9_50 : Nat) (H : Heap) (locs : List Loc) (ls : Array Slot) (az336 : Nat → Nat → Int32) (nz337 : Nat → Int32) (xz338 : Int32), (2147483647 - xz338.toInt).toNat < n9_50 → Rg 0 8 nz337 → 0 ≤ xz338.toInt → va_P (dC, dI) vwCl (List.flatten [(wSets qE k vz195 cz194 az193), (wMem qM k nz337 az336)] ++ List.flatten [(wValley qV k vV bV cV wV aV eV), (wSlot qL k vL sL lL)]) H → va_D A (List.flatten [(wSets qE k vz195 cz194 az193), (wMem qM k nz337 az336)] ++ List.flatten [(wValley qV k vV bV cV wV aV eV), (wSlot qL k vL sL lL)]) → va_S A s.heap H locs → lv_has ls 8 [(0, .ref (qE 0)), (1, .ref (qV 0)), (3, .ref (qL 0)), (4, .ref (qM 0)), (5, .int rz2), (6, .int xz198), (7, .int xz338)] → W p l e (headSpec wk_c_X5_seek ({ frames := 2, cells := 0, slots := 0, locals := 42 })).room s m ([.ref (qE 0), .ref (qV 0), .int p2, .ref (qL 0), .ref (qM 0)] : List Value).toArray below meth c H locs 0 0 Q (F0 m 50 ls []) := by
            intro n9_50
            induction n9_50 with
            | zero => intro H locs ls az336 nz337 xz338 hm; exact absurd hm (Nat.not_lt_zero _)
            | succ n9_50 ih50 =>
              intro H locs ls az336 nz337 xz338 hm50 hnz337 jz340 hP hD hS hl
              refine lv_iload hx hb dX5_seek_50 (lv_at hl 6 rfl) ?_
              refine lv_aload_n hx hb dX5_seek_52 rfl (lv_at hl 0 rfl) ?_
              refine va_get (D := (dC, dI)) (ci := 5) (v := .int (cz194 0)) (C := RX5) (T := TX5) (N := 6) hx hb hts (fun w h => List.mem_cons_of_mem _ (List.mem_append_right _ (List.mem_append_right _ (List.mem_append_right _ (List.mem_append_right _ (List.mem_append_left _ h)))))) hown hK hP 0 rfl rfl 1 (by decide) (hts (.fieldLink RX5 29 "SagMemory$Sets" "carts" "I") (wl_mem 9 rfl)) (fun _ h9 => h9) rfl dX5_seek_53 ?_
              refine lv_icmp_ge (tgt := 94) hx hb dX5_seek_56 (by decide) (fun cz341 => ?_) (fun cz341 => ?_)
              · skip
                have bz342 := fb_rng xz338
                have zz343 : (cz194 0).toInt ≤ xz338.toInt := zi_le.mp cz341
                refine lv_aload_n hx hb dX5_seek_94 rfl (lv_at hl 2 rfl) ?_
                refine lv_aload hx hb dX5_seek_95 (lv_at hl 3 rfl) ?_
                have hPc := hP.sub (ws' := (List.flatten [(wSlot qL k vL sL lL), (wMem qM k nz337 az336)])) [13, 14, 2, 3, 4] rfl
                refine vp_callSi (va_Run.run (va_runV (As := [.ref (qM 0)]) (rest := []) ⟨hx, hb, hml, hown, hts⟩ (c_X6_isLeftIn l dC dI k qL vL sL lL qM nz337 az336 hsL hnz337) (cwV 1 hts (gk_V (wl_mem 17 rfl) (wl_mem 18 rfl) (wl_mem 19 rfl) (wl_mem 20 rfl) (fun w h => List.mem_cons_of_mem _ (List.mem_append_right _ (List.mem_append_right _ (List.mem_append_right _ (List.mem_append_right _ (List.mem_append_right _ (List.mem_append_right _ (List.mem_append_right _ (List.mem_append_left _ h))))))))) wkg_c_X6_isLeftIn) rfl rfl rfl (by decide +kernel) ⟨Nat.le_of_ble_eq_true rfl, Nat.le_of_ble_eq_true rfl⟩) ⟨fun a U g mk q => by obtain ⟨q0, qP, qK⟩ := q; exact ⟨q0, qP, va_K.moved (u := U) (U := U.calling g mk a) (Vm.Alike.refl U.vm) qK⟩, va_recv hK hPc (ci := 6) (q0 := 0) rfl rfl, fun U hU hW => ⟨rfl, by rw [hU]; exact hPc, va_K.moved hW.alike hK⟩⟩ rfl rfl hl.1 rfl (lv_room (Nat.le_of_ble_eq_true rfl)) dX5_seek_97 ⟨Nat.le_of_ble_eq_true rfl, Nat.le_of_ble_eq_true rfl⟩)) (fun rz345 gz344 => ?_)
                clear hPc
                have pz346 := gz344
                have pz346 : rz345.toInt = 0 ∨ rz345.toInt = 1 := pz346
                refine lv_if_eq (tgt := 109) hx hb dX5_seek_100 (by decide) (fun cz347 => ?_) (fun cz347 => ?_)
                · skip
                  have zz348 : rz345.toInt = (0 : Int) := zi_eq.mp cz347
                  exact ct109_kz297 H locs ls az193 cz194 vz195 az336 nz337  hcz194 hnz337 hP hD hS (lv_sub hl [0, 1, 2, 3, 4, 5] rfl)
                · skip
                  have zz349 : ¬ rz345.toInt = (0 : Int) := fun h9 => cz347 (zi_eq.mpr h9)
                  refine lv_aload_n hx hb dX5_seek_103 rfl (lv_at hl 0 rfl) ?_
                  refine lv_iload hx hb dX5_seek_104 (lv_at hl 5 rfl) ?_
                  have hPc := hP.sub (ws' := (List.flatten [(wSets qE k vz195 cz194 az193)] ++ List.flatten ([] : List va_W))) [0, 1] rfl
                  have hC : [0, 1].map (fun i => (List.flatten [(wSets qE k vz195 cz194 az193), (wMem qM k nz337 az336)] ++ List.flatten [(wValley qV k vV bV cV wV aV eV), (wSlot qL k vL sL lL)])[i]?) = (List.flatten [(wSets qE k vz195 cz194 az193)] ++ List.flatten ([] : List va_W)).map some := rfl
                  have hDc := hD.sub [0, 1] (by decide) hC
                  have hFc := va_free hD hS hA [0, 1] hC
                  refine va_callv (va_runV (As := [.int xz198]) (rest := []) ⟨hx, hb, hml, hown, hts⟩ (c_X5_add l dC dI k H.size qE vz195 cz194 az193 xz198 hcz194) (cwV 1 hts (gk_V (wl_mem 21 rfl) (wl_mem 22 rfl) (wl_mem 23 rfl) (wl_mem 8 rfl) (fun w h => List.mem_cons_of_mem _ (List.mem_append_right _ (List.mem_append_right _ (List.mem_append_right _ (List.mem_append_right _ (List.mem_append_right _ (List.mem_append_right _ (List.mem_append_right _ (List.mem_append_right _ (List.mem_append_left _ h)))))))))) wkg_c_X5_add) rfl rfl rfl (by decide +kernel) ⟨Nat.le_of_ble_eq_true rfl, Nat.le_of_ble_eq_true rfl⟩) ⟨fun a U g mk q => by obtain ⟨q0, q1, qP, qK, qD⟩ := q; exact ⟨q0, q1, qP, va_K.moved (u := U) (U := U.calling g mk a) (Vm.Alike.refl U.vm) qK, qD⟩, va_recv hK hPc (ci := 5) (q0 := 0) rfl rfl, fun U hU hW => ⟨rfl, by rw [hU], by rw [hU]; exact hPc, va_K.moved hW.alike hK, hDc.weaken (fun _ _ _ _ => trivial)⟩⟩ rfl rfl hl.1 rfl (lv_room (Nat.le_of_ble_eq_true rfl)) dX5_seek_106 ⟨Nat.le_of_ble_eq_true rfl, Nat.le_of_ble_eq_true rfl⟩) hS (fun q _ h => hFc q h) hFc (fun u t H1 locs ht hvm gz350 hB hz1 hk1 hS => ?_)
                  obtain ⟨vz352, cz353, az354, hcz353, hP1⟩ := hB
                  rw [ht] at hP1
                  obtain ⟨hP, hD⟩ := w_callR hP hD hk1 hP1 [0] rfl rfl (fun _ h => absurd h List.not_mem_nil) rfl [some 0, none] rfl rfl
                  clear hPc hC hDc hFc hk1 hP1
                  generalize H1 = H at hP hS ⊢
                  have hP : va_P (dC, dI) vwCl (List.flatten [(wSets qE k vz352 cz353 az354), (wMem qM k nz337 az336)] ++ List.flatten [(wValley qV k vV bV cV wV aV eV), (wSlot qL k vL sL lL)]) H := hP
                  have hD : va_D A (List.flatten [(wSets qE k vz352 cz353 az354), (wMem qM k nz337 az336)] ++ List.flatten [(wValley qV k vV bV cV wV aV eV), (wSlot qL k vL sL lL)]) := hD
                  refine W.widen (k := 0) (n := 0) (Nat.le_refl 0) (Nat.le_refl 0) ?_
                  exact ct109_kz297 H locs ls az354 cz353 vz352 az336 nz337  hcz353 hnz337 hP hD hS (lv_sub hl [0, 1, 2, 3, 4, 5] rfl)
              · skip
                have bz355 := fb_rng xz338
                have zz356 : ¬ (cz194 0).toInt ≤ xz338.toInt := fun h9 => cz341 (zi_le.mpr h9)
                refine lv_iload hx hb dX5_seek_59 (lv_at hl 5 rfl) ?_
                refine lv_iload hx hb dX5_seek_61 (lv_at hl 6 rfl) ?_
                refine lv_ishr hx hb dX5_seek_63 ?_
                refine lv_topi (fun xz357 exz357 => ?_)
                refine lv_iconst (v := 1) hx hb dX5_seek_64 (by decide) ?_
                refine lv_iand hx hb dX5_seek_65 ?_
                refine lv_topi (fun xz358 exz358 => ?_)
                have bxz358 : 0 ≤ xz358.toInt ∧ xz358.toInt ≤ 1 := by rw [exz358]; exact zand _ 1 2 (by decide) (by decide) (by decide)
                have ct88_kz369 : ∀ (H : Heap) (locs : List Loc) (ls : Array Slot) (az367 : Nat → Nat → Int32) (nz368 : Nat → Int32), Rg 0 8 nz368 → va_P (dC, dI) vwCl (List.flatten [(wSets qE k vz195 cz194 az193), (wMem qM k nz368 az367)] ++ List.flatten [(wValley qV k vV bV cV wV aV eV), (wSlot qL k vL sL lL)]) H → va_D A (List.flatten [(wSets qE k vz195 cz194 az193), (wMem qM k nz368 az367)] ++ List.flatten [(wValley qV k vV bV cV wV aV eV), (wSlot qL k vL sL lL)]) → va_S A s.heap H locs → lv_has ls 8 [(0, .ref (qE 0)), (1, .ref (qV 0)), (3, .ref (qL 0)), (4, .ref (qM 0)), (5, .int rz2), (6, .int xz198), (7, .int xz338)] → W p l e (headSpec wk_c_X5_seek ({ frames := 2, cells := 0, slots := 0, locals := 42 })).room s m ([.ref (qE 0), .ref (qV 0), .int p2, .ref (qL 0), .ref (qM 0)] : List Value).toArray below meth c H locs 0 0 Q (F0 m 88 ls []) := by
                  intro H locs ls az367 nz368 hnz368 hP hD hS hl
                  obtain ⟨xz370, exz370⟩ : ∃ y : Int32, y = xz338 + Int32.ofInt (1) := ⟨_, rfl⟩
                  have fxz370 : xz370.toInt = xz338.toInt + (1) := by rw [exz370]; exact fb_addI (y := Int32.ofInt (1)) (by show -2147483648 ≤ xz338.toInt + (1); omega) (by show xz338.toInt + (1) < 2147483648; omega)
                  refine lv_iinc (v := xz370) (lv' := [(7, .int xz370), (0, .ref (qE 0)), (1, .ref (qV 0)), (3, .ref (qL 0)), (4, .ref (qM 0)), (5, .int rz2), (6, .int xz198)]) hx hb dX5_seek_88 hl (k := 6) rfl exz370.symm (by decide) rfl (fun ls hl => ?_)
                  refine lv_goto (tgt := 50) hx hb dX5_seek_91 (by decide) ?_
                  exact ih50 H locs ls az367 nz368 xz370 (by show (2147483647 - xz370.toInt).toNat < n9_50; omega) hnz368 (by show 0 ≤ xz370.toInt; omega) hP hD hS (lv_sub hl [1, 2, 3, 4, 5, 6, 0] rfl)
                refine lv_if_eq (tgt := 88) hx hb dX5_seek_66 (by decide) (fun cz371 => ?_) (fun cz371 => ?_)
                · skip
                  have zz372 : xz358.toInt = (0 : Int) := zi_eq.mp cz371
                  exact ct88_kz369 H locs ls az336 nz337  hnz337 hP hD hS (lv_sub hl [0, 1, 2, 3, 4, 5, 6] rfl)
                · skip
                  have zz373 : ¬ xz358.toInt = (0 : Int) := fun h9 => cz371 (zi_eq.mpr h9)
                  refine lv_aload hx hb dX5_seek_69 (lv_at hl 3 rfl) ?_
                  refine lv_aload_n hx hb dX5_seek_71 rfl (lv_at hl 1 rfl) ?_
                  refine va_get (D := (dC, dI)) (ci := 10) (v := .ref (qV 3)) (C := RX10) (T := TX10) (N := 16) hx hb hts (fun w h => List.mem_cons_of_mem _ (List.mem_append_right _ (List.mem_append_right _ (List.mem_append_left _ h)))) hown hK hP 5 rfl rfl 2 (by decide) (hts (.fieldLink RX5 35 "SagMemory$Valley" "loads" "[I") (wl_mem 11 rfl)) (fun _ h9 => h9) rfl dX5_seek_72 ?_
                  refine lv_iload hx hb dX5_seek_75 (lv_at hl 6 rfl) ?_
                  refine va_iald hx hb hK hP 8 0 rfl rfl (vp_in_iff.mpr ⟨by omega, by omega⟩) dX5_seek_77 ?_
                  refine lv_topi (fun xz374 exz374 => ?_)
                  have bxz374 : 0 ≤ xz374.toInt ∧ xz374.toInt ≤ 99 := by rw [exz374]; exact (heV 0) _
                  refine lv_iload hx hb dX5_seek_78 (lv_at hl 6 rfl) ?_
                  refine lv_aload_n hx hb dX5_seek_80 rfl (lv_at hl 1 rfl) ?_
                  refine va_get (D := (dC, dI)) (ci := 10) (v := .int (vV 1)) (C := RX10) (T := TX10) (N := 16) hx hb hts (fun w h => List.mem_cons_of_mem _ (List.mem_append_right _ (List.mem_append_right _ (List.mem_append_left _ h)))) hown hK hP 5 rfl rfl 8 (by decide) (hts (.fieldLink RX5 38 "SagMemory$Valley" "law" "I") (wl_mem 12 rfl)) (fun _ h9 => h9) rfl dX5_seek_81 ?_
                  have hPc := hP.sub (ws' := (List.flatten [(wMem qM k nz337 az336)] ++ List.flatten ([] : List va_W))) [2, 3, 4] rfl
                  have hC : [2, 3, 4].map (fun i => (List.flatten [(wSets qE k vz195 cz194 az193), (wMem qM k nz337 az336)] ++ List.flatten [(wValley qV k vV bV cV wV aV eV), (wSlot qL k vL sL lL)])[i]?) = (List.flatten [(wMem qM k nz337 az336)] ++ List.flatten ([] : List va_W)).map some := rfl
                  have hDc := hD.sub [2, 3, 4] (by decide) hC
                  have hFc := va_free hD hS hA [2, 3, 4] hC
                  refine va_calli (va_runV (As := [.int xz374, .int xz338, .int (vV 1)]) (rest := []) ⟨hx, hb, hml, hown, hts⟩ (c_X2_pass l dC dI k H.size qM nz337 az336 xz374 xz338 (vV 1) hnz337 (by show 0 ≤ xz374.toInt ∧ xz374.toInt ≤ 99; omega)) (cwV 3 hts (gk_V (wl_mem 13 rfl) (wl_mem 14 rfl) (wl_mem 15 rfl) (wl_mem 16 rfl) (fun w h => List.mem_cons_of_mem _ (List.mem_append_right _ (List.mem_append_right _ (List.mem_append_right _ (List.mem_append_right _ (List.mem_append_right _ (List.mem_append_right _ (List.mem_append_left _ h)))))))) wkg_c_X2_pass) rfl rfl rfl (by decide +kernel) ⟨Nat.le_of_ble_eq_true rfl, Nat.le_of_ble_eq_true rfl⟩) ⟨fun a U g mk q => by obtain ⟨q0, q1, qP, qK, qD⟩ := q; exact ⟨q0, q1, qP, va_K.moved (u := U) (U := U.calling g mk a) (Vm.Alike.refl U.vm) qK, qD⟩, va_recv hK hPc (ci := 2) (q0 := 0) rfl rfl, fun U hU hW => ⟨rfl, by rw [hU], by rw [hU]; exact hPc, va_K.moved hW.alike hK, hDc.weaken (fun _ _ _ _ => trivial)⟩⟩ rfl rfl hl.1 rfl (lv_room (Nat.le_of_ble_eq_true rfl)) dX5_seek_84 ⟨Nat.le_of_ble_eq_true rfl, Nat.le_of_ble_eq_true rfl⟩) hS (fun q _ h => hFc q h) hFc (fun rz376 u t H1 locs ht hvm gz375 hB hz1 hk1 hS => ?_)
                  obtain ⟨nz377, az378, hnz377, hP1⟩ := hB
                  rw [ht] at hP1
                  obtain ⟨hP, hD⟩ := w_callR hP hD hk1 hP1 [1] rfl rfl (fun _ h => absurd h List.not_mem_nil) rfl [none, some 0] rfl rfl
                  clear hPc hC hDc hFc hk1 hP1
                  generalize H1 = H at hP hS ⊢
                  have hP : va_P (dC, dI) vwCl (List.flatten [(wSets qE k vz195 cz194 az193), (wMem qM k nz377 az378)] ++ List.flatten [(wValley qV k vV bV cV wV aV eV), (wSlot qL k vL sL lL)]) H := hP
                  have hD : va_D A (List.flatten [(wSets qE k vz195 cz194 az193), (wMem qM k nz377 az378)] ++ List.flatten [(wValley qV k vV bV cV wV aV eV), (wSlot qL k vL sL lL)]) := hD
                  refine W.widen (k := 0) (n := 0) (Nat.le_refl 0) (Nat.le_refl 0) ?_
                  refine lv_pop hx hb dX5_seek_87 rfl ?_
                  exact ct88_kz369 H locs ls az378 nz377  hnz377 hP hD hS (lv_sub hl [0, 1, 2, 3, 4, 5, 6] rfl)
          exact lp50_kz339 _ H locs ls az196 (va_up nz197 0 (0 : Int32)) (0 : Int32) (Nat.lt_succ_self _) (rg_up hnz197 (by show 0 ≤ (0 : Int) ∧ (0 : Int) ≤ 8; omega)) (by show 0 ≤ (0 : Int); omega) hP hD hS (lv_sub hl [1, 2, 3, 4, 5, 6, 0] rfl)
  exact lp20_kz199 _ H locs ls az8 cz7 vz6 aM nM (0 : Int32) (Nat.lt_succ_self _) hcz7 hnM (by show 0 ≤ (0 : Int); omega) hP hD hS (lv_sub hl [2, 3, 5, 6, 1, 0] rfl)
