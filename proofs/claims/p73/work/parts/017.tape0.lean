def wk_c_X9_put : List Cond := .code yX9_put cX9_put 3 none :: ([.fieldLink RX9 26 "SagMemory$Tape" "length" "I", .fieldLink RX9 9 "SagMemory$Tape" "bytes" "[I"] ++ (wsX90 ++ []))
theorem wkg_c_X9_put : wk_c_X9_put.all goodWord = true := by decide +kernel
set_option maxHeartbeats 4000000 in
set_option maxRecDepth 100000 in
theorem c_X9_put (l : Launch) (dC : Nat → ClassId) (dI : Nat → Nat → Nat) (k : Nat → ClassId) (sz : Nat) (qT : Nat → Nat) (readT : Nat) (vT : Nat → Int32) (tT : Nat → Int32) (aT : Nat → Nat → Int32) (p1 : Int32) (htT : Rg 0 700 tT) : Met l yX9_put wk_c_X9_put ({ frames := 0, cells := 0, slots := 0, locals := 0 }) (va_Pc [.ref (qT 0), .int p1] (fun U => U.heap.size = sz ∧ va_P (dC, dI) vwCl (List.flatten [(wTape qT k readT vT tT aT)] ++ List.flatten ([] : List va_W)) U.heap ∧ va_K (dC, dI) vwCl (tK k) U ∧ va_D (fun _ => True) (List.flatten [(wTape qT k readT vT tT aT)] ++ List.flatten ([] : List va_W)))) (va_Qv (fun _ : Unit => True) (fun (_ : Unit) (t : State) => ∃ (vT' : Nat → Int32) (tT' : Nat → Int32) (aT' : Nat → Nat → Int32), Rg 0 700 tT' ∧ va_P (dC, dI) vwCl (List.flatten [(wTape qT k readT vT' tT' aT')] ++ List.flatten ([] : List va_W)) t.heap) (va_A (List.flatten [(wTape qT k readT vT tT aT)] ++ List.flatten ([] : List va_W)) sz)) 0 0 (va_A (List.flatten [(wTape qT k readT vT tT aT)] ++ List.flatten ([] : List va_W)) sz) := by
  refine Met.ofW (cc := cX9_put) (maxL := 3) (ret := none) (by decide) rfl ?_
  intro p e s m args below meth c s₁ B hml hv
  obtain ⟨rfl, hsz, hP, hK, hD0⟩ := hv
  have hx := B.exec
  have hb := B.bytes
  have hr := B.returns
  have hts := atoms_spec (ws := wk_c_X9_put) B.pre
  have hown : s.vm.findClass RX9 = some m.cls := findClass_of_methodNamed B.named
  have hlocks := B.notSynchronized
  subst hsz
  have hD := hD0.self (sz := s.heap.size)
  generalize hAe : va_A (List.flatten [(wTape qT k readT vT tT aT)] ++ List.flatten ([] : List va_W)) s.heap.size = A at hD ⊢
  have hA : ∀ q : Nat, s.heap.size ≤ q → A q := fun q h => by rw [← hAe]; exact Or.inr h
  have hS : va_S A s.heap s.heap [] := va_S.rf
  have hP : va_P (dC, dI) vwCl (List.flatten [(wTape qT k readT vT tT aT)] ++ List.flatten ([] : List va_W)) s.heap := hP
  have hl := lv_entry ([.ref (qT 0), .int p1]) (n := 3) (Nat.le_of_ble_eq_true rfl)
  rw [lg_entry_eq]
  generalize (lg_sl ([.ref (qT 0), .int p1]) ++ List.replicate (3 - (lg_sl ([.ref (qT 0), .int p1])).length) Slot.unset).toArray = ls at hl ⊢
  have hl : lv_has ls 3 [(0, .ref (qT 0)), (1, .int p1)] := hl
  refine w_gen (fun Q hQ => ?_)
  refine lv_bipush (v := 24) hx hb dX9_put_0 (by decide) ?_
  refine lv_istore_n (lv' := [(2, .int 24), (0, .ref (qT 0)), (1, .int p1)]) hx hb dX9_put_2 rfl hl (by decide) rfl (fun ls hl => ?_)
  have lp3_kz32 : ∀ (n9_3 : Nat) (H : Heap) (locs : List Loc) (ls : Array Slot) (az29 : Nat → Nat → Int32) (tz30 : Nat → Int32) (xz31 : Int32), (xz31.toInt + 2147483648).toNat < n9_3 → Rg 0 700 tz30 → xz31.toInt ≤ 24 → va_P (dC, dI) vwCl (List.flatten [(wTape qT k readT vT tz30 az29)] ++ List.flatten ([] : List va_W)) H → va_D A (List.flatten [(wTape qT k readT vT tz30 az29)] ++ List.flatten ([] : List va_W)) → va_S A s.heap H locs → lv_has ls 3 [(0, .ref (qT 0)), (1, .int p1), (2, .int xz31)] → W p l e (headSpec wk_c_X9_put ({ frames := 0, cells := 0, slots := 0, locals := 0 })).room s m ([.ref (qT 0), .int p1] : List Value).toArray below meth c H locs 0 0 Q (F0 m 3 ls []) := by
    intro n9_3
    induction n9_3 with
    | zero => intro H locs ls az29 tz30 xz31 hm; exact absurd hm (Nat.not_lt_zero _)
    | succ n9_3 ih3 =>
      intro H locs ls az29 tz30 xz31 hm3 htz30 jz33 hP hD hS hl
      refine lv_iload_n hx hb dX9_put_3 rfl (lv_at hl 2 rfl) ?_
      refine lv_if_lt (tgt := 49) hx hb dX9_put_4 (by decide) (fun cz34 => ?_) (fun cz34 => ?_)
      · skip
        have bz35 := fb_rng xz31
        have zz36 : xz31.toInt < (0 : Int) := zi_lt.mp cz34
        rw [hQ]
        exact W.vret hx hb hr (fun t ht hW => ⟨⟨(), rfl, trivial, vT, tz30, az29, htz30, by rw [ht]; exact hP⟩, hS.F ht⟩) hS.2.2 dX9_put_49
      · skip
        have bz37 := fb_rng xz31
        have zz38 : ¬ xz31.toInt < (0 : Int) := fun h9 => cz34 (zi_lt.mpr h9)
        refine lv_aload_n hx hb dX9_put_7 rfl (lv_at hl 0 rfl) ?_
        refine va_get (D := (dC, dI)) (ci := 9) (v := .int (tz30 0)) (C := RX9) (T := TX9) (N := 10) hx hb hts (fun w h => List.mem_cons_of_mem _ (List.mem_append_right _ (List.mem_append_left _ h))) hown hK hP 0 rfl rfl 2 (by decide) (hts (.fieldLink RX9 26 "SagMemory$Tape" "length" "I") (wl_mem 0 rfl)) (fun _ h9 => h9) rfl dX9_put_8 ?_
        have bz39 := htz30 0
        refine lv_sipush (v := 700) hx hb dX9_put_11 (by decide) ?_
        have ct43_kz49 : ∀ (H : Heap) (locs : List Loc) (ls : Array Slot) (az47 : Nat → Nat → Int32) (tz48 : Nat → Int32), Rg 0 700 tz48 → va_P (dC, dI) vwCl (List.flatten [(wTape qT k readT vT tz48 az47)] ++ List.flatten ([] : List va_W)) H → va_D A (List.flatten [(wTape qT k readT vT tz48 az47)] ++ List.flatten ([] : List va_W)) → va_S A s.heap H locs → lv_has ls 3 [(0, .ref (qT 0)), (1, .int p1), (2, .int xz31)] → W p l e (headSpec wk_c_X9_put ({ frames := 0, cells := 0, slots := 0, locals := 0 })).room s m ([.ref (qT 0), .int p1] : List Value).toArray below meth c H locs 0 0 Q (F0 m 43 ls []) := by
          intro H locs ls az47 tz48 htz48 hP hD hS hl
          obtain ⟨xz50, exz50⟩ : ∃ y : Int32, y = xz31 + Int32.ofInt (-8) := ⟨_, rfl⟩
          have fxz50 : xz50.toInt = xz31.toInt + (-8) := by rw [exz50]; exact fb_addI (y := Int32.ofInt (-8)) (by show -2147483648 ≤ xz31.toInt + (-8); omega) (by show xz31.toInt + (-8) < 2147483648; omega)
          refine lv_iinc (v := xz50) (lv' := [(2, .int xz50), (0, .ref (qT 0)), (1, .int p1)]) hx hb dX9_put_43 hl (k := 2) rfl exz50.symm (by decide) rfl (fun ls hl => ?_)
          refine lv_goto (tgt := 3) hx hb dX9_put_46 (by decide) ?_
          exact ih3 H locs ls az47 tz48 xz50 (by show (xz50.toInt + 2147483648).toNat < n9_3; omega) htz48 (by show xz50.toInt ≤ 24; omega) hP hD hS (lv_sub hl [1, 2, 0] rfl)
        refine lv_icmp_ge (tgt := 43) hx hb dX9_put_14 (by decide) (fun cz51 => ?_) (fun cz51 => ?_)
        · skip
          have zz52 : (700 : Int) ≤ (tz30 0).toInt := zi_le.mp cz51
          exact ct43_kz49 H locs ls az29 tz30  htz30 hP hD hS (lv_sub hl [0, 1, 2] rfl)
        · skip
          have zz53 : ¬ (700 : Int) ≤ (tz30 0).toInt := fun h9 => cz51 (zi_le.mpr h9)
          refine lv_aload_n hx hb dX9_put_17 rfl (lv_at hl 0 rfl) ?_
          refine va_get (D := (dC, dI)) (ci := 9) (v := .ref (qT 1)) (C := RX9) (T := TX9) (N := 10) hx hb hts (fun w h => List.mem_cons_of_mem _ (List.mem_append_right _ (List.mem_append_left _ h))) hown hK hP 0 rfl rfl 0 (by decide) (hts (.fieldLink RX9 9 "SagMemory$Tape" "bytes" "[I") (wl_mem 1 rfl)) (fun _ h9 => h9) rfl dX9_put_18 ?_
          refine lv_aload_n hx hb dX9_put_21 rfl (lv_at hl 0 rfl) ?_
          refine va_get (D := (dC, dI)) (ci := 9) (v := .int (tz30 0)) (C := RX9) (T := TX9) (N := 10) hx hb hts (fun w h => List.mem_cons_of_mem _ (List.mem_append_right _ (List.mem_append_left _ h))) hown hK hP 0 rfl rfl 2 (by decide) (hts (.fieldLink RX9 26 "SagMemory$Tape" "length" "I") (wl_mem 0 rfl)) (fun _ h9 => h9) rfl dX9_put_22 ?_
          refine lv_iload_n hx hb dX9_put_25 rfl (lv_at hl 1 rfl) ?_
          refine lv_iload_n hx hb dX9_put_26 rfl (lv_at hl 2 rfl) ?_
          refine lv_iushr hx hb dX9_put_27 rfl ?_
          refine lv_topi (fun xz54 exz54 => ?_)
          refine lv_sipush (v := 255) hx hb dX9_put_28 (by decide) ?_
          refine lv_iand hx hb dX9_put_31 ?_
          refine lv_topi (fun xz55 exz55 => ?_)
          have bxz55 : 0 ≤ xz55.toInt ∧ xz55.toInt ≤ 255 := by rw [exz55]; exact zand _ 8 256 (by decide) (by decide) (by decide)
          refine va_iast hx hb hK hP hD hS 1 0 rfl rfl (vp_in_iff.mpr ⟨by omega, by omega⟩) dX9_put_32 (fun H locs hP hD hS => ?_)
          obtain ⟨fz56, efz56, hP, hD⟩ : ∃ fz56 : Nat → Int32, fz56 = upd (az29 0) (tz30 0).toNatClampNeg xz55 ∧ va_P (dC, dI) vwCl (List.flatten [(wTape qT k readT vT tz30 (va_up az29 0 fz56))] ++ List.flatten ([] : List va_W)) H ∧ va_D A (List.flatten [(wTape qT k readT vT tz30 (va_up az29 0 fz56))] ++ List.flatten ([] : List va_W)) := ⟨_, rfl, hP, hD⟩
          have kfz56 : fz56 (tz30 0).toNatClampNeg = xz55 := by rw [efz56]; exact pk_us
          refine lv_aload_n hx hb dX9_put_33 rfl (lv_at hl 0 rfl) ?_
          refine lv_dup hx hb dX9_put_34 rfl ?_
          refine va_get (D := (dC, dI)) (ci := 9) (v := .int (tz30 0)) (C := RX9) (T := TX9) (N := 10) hx hb hts (fun w h => List.mem_cons_of_mem _ (List.mem_append_right _ (List.mem_append_left _ h))) hown hK hP 0 rfl rfl 2 (by decide) (hts (.fieldLink RX9 26 "SagMemory$Tape" "length" "I") (wl_mem 0 rfl)) (fun _ h9 => h9) rfl dX9_put_35 ?_
          refine lv_iconst (v := 1) hx hb dX9_put_38 (by decide) ?_
          refine lv_iadd hx hb dX9_put_39 ?_
          refine lv_topi (fun xz57 exz57 => ?_)
          have fxz57 : xz57.toInt = (tz30 0).toInt + (1 : Int) := by rw [exz57]; exact fb_addI (x := (tz30 0)) (y := (1 : Int32)) (by show -2147483648 ≤ (tz30 0).toInt + (1 : Int); omega) (by show (tz30 0).toInt + (1 : Int) < 2147483648; omega)
          refine va_put (D := (dC, dI)) (ci := 9) (v := .int xz57) (ty := .int) (C := RX9) (T := TX9) (N := 10) hx hb hts (fun w h => List.mem_cons_of_mem _ (List.mem_append_right _ (List.mem_append_left _ h))) tyX9 tyX9_ok nmX9 hown hK hP hD hS 0 rfl rfl 2 (by decide) (hts (.fieldLink RX9 26 "SagMemory$Tape" "length" "I") (wl_mem 0 rfl)) (fun _ h9 => h9) rfl (by decide +kernel) rfl rfl (Nat.le_of_ble_eq_true rfl) dX9_put_40 (fun H locs hP hD hS => ?_)
          have hP : va_P (dC, dI) vwCl (List.flatten [(wTape qT k readT vT (va_up tz30 0 xz57) (va_up az29 0 fz56))] ++ List.flatten ([] : List va_W)) H := hP
          have hD : va_D A (List.flatten [(wTape qT k readT vT (va_up tz30 0 xz57) (va_up az29 0 fz56))] ++ List.flatten ([] : List va_W)) := hD
          exact ct43_kz49 H locs ls (va_up az29 0 fz56) (va_up tz30 0 xz57)  (rg_up htz30 (by show 0 ≤ xz57.toInt ∧ xz57.toInt ≤ 700; omega)) hP hD hS (lv_sub hl [0, 1, 2] rfl)
  exact lp3_kz32 _ s.heap [] ls aT tT (24 : Int32) (Nat.lt_succ_self _) htT (by show (24 : Int) ≤ 24; omega) hP hD hS (lv_sub hl [1, 2, 0] rfl)
def wk_c_X9_fail : List Cond := .code yX9_fail cX9_fail 2 (some .boolean) :: ([.fieldLink RX9 32 "SagMemory$Tape" "fault" "I", .fieldLink RX9 161 "SagMemory$Tape" "start" "I", .fieldLink RX9 22 "SagMemory$Tape" "place" "I"] ++ (wsX90 ++ []))
theorem wkg_c_X9_fail : wk_c_X9_fail.all goodWord = true := by decide +kernel
set_option maxHeartbeats 4000000 in
set_option maxRecDepth 100000 in
theorem c_X9_fail (l : Launch) (dC : Nat → ClassId) (dI : Nat → Nat → Nat) (k : Nat → ClassId) (sz : Nat) (qT : Nat → Nat) (readT : Nat) (vT : Nat → Int32) (tT : Nat → Int32) (aT : Nat → Nat → Int32) (p1 : Int32) (htT : Rg 0 700 tT) : Met l yX9_fail wk_c_X9_fail ({ frames := 0, cells := 0, slots := 0, locals := 0 }) (va_Pc [.ref (qT 0), .int p1] (fun U => U.heap.size = sz ∧ va_P (dC, dI) vwCl (List.flatten [(wTape qT k readT vT tT aT)] ++ List.flatten ([] : List va_W)) U.heap ∧ va_K (dC, dI) vwCl (tK k) U ∧ va_D (fun _ => True) (List.flatten [(wTape qT k readT vT tT aT)] ++ List.flatten ([] : List va_W)))) (va_Qi (fun (r : Int32) (_ : Unit) => (r.toInt = 0) ∧ (r.toInt = 0 ∨ r.toInt = 1)) (fun (_ : Unit) (t : State) => ∃ (vT' : Nat → Int32) (tT' : Nat → Int32) (aT' : Nat → Nat → Int32), Rg 0 700 tT' ∧ va_P (dC, dI) vwCl (List.flatten [(wTape qT k readT vT' tT' aT')] ++ List.flatten ([] : List va_W)) t.heap) (va_A (List.flatten [(wTape qT k readT vT tT aT)] ++ List.flatten ([] : List va_W)) sz)) 0 0 (va_A (List.flatten [(wTape qT k readT vT tT aT)] ++ List.flatten ([] : List va_W)) sz) := by
  refine Met.ofW (cc := cX9_fail) (maxL := 2) (ret := (some .boolean)) (by decide) rfl ?_
  intro p e s m args below meth c s₁ B hml hv
  obtain ⟨rfl, hsz, hP, hK, hD0⟩ := hv
  have hx := B.exec
  have hb := B.bytes
  have hr := B.returns
  have hts := atoms_spec (ws := wk_c_X9_fail) B.pre
  have hown : s.vm.findClass RX9 = some m.cls := findClass_of_methodNamed B.named
  have hlocks := B.notSynchronized
  subst hsz
  have hD := hD0.self (sz := s.heap.size)
  generalize hAe : va_A (List.flatten [(wTape qT k readT vT tT aT)] ++ List.flatten ([] : List va_W)) s.heap.size = A at hD ⊢
  have hA : ∀ q : Nat, s.heap.size ≤ q → A q := fun q h => by rw [← hAe]; exact Or.inr h
  have hS : va_S A s.heap s.heap [] := va_S.rf
  have hP : va_P (dC, dI) vwCl (List.flatten [(wTape qT k readT vT tT aT)] ++ List.flatten ([] : List va_W)) s.heap := hP
  have hl := lv_entry ([.ref (qT 0), .int p1]) (n := 2) (Nat.le_of_ble_eq_true rfl)
  rw [lg_entry_eq]
  generalize (lg_sl ([.ref (qT 0), .int p1]) ++ List.replicate (2 - (lg_sl ([.ref (qT 0), .int p1])).length) Slot.unset).toArray = ls at hl ⊢
  have hl : lv_has ls 2 [(0, .ref (qT 0)), (1, .int p1)] := hl
  refine w_gen (fun Q hQ => ?_)
  refine lv_aload_n hx hb dX9_fail_0 rfl (lv_at hl 0 rfl) ?_
  refine lv_iload_n hx hb dX9_fail_1 rfl (lv_at hl 1 rfl) ?_
  refine va_put (D := (dC, dI)) (ci := 9) (v := .int p1) (ty := .int) (C := RX9) (T := TX9) (N := 10) hx hb hts (fun w h => List.mem_cons_of_mem _ (List.mem_append_right _ (List.mem_append_left _ h))) tyX9 tyX9_ok nmX9 hown hK hP hD hS 0 rfl rfl 3 (by decide) (hts (.fieldLink RX9 32 "SagMemory$Tape" "fault" "I") (wl_mem 0 rfl)) (fun _ h9 => h9) rfl (by decide +kernel) rfl rfl (Nat.le_of_ble_eq_true rfl) dX9_fail_2 (fun H locs hP hD hS => ?_)
  have hP : va_P (dC, dI) vwCl (List.flatten [(wTape qT k readT (va_up vT 0 p1) tT aT)] ++ List.flatten ([] : List va_W)) H := hP
  have hD : va_D A (List.flatten [(wTape qT k readT (va_up vT 0 p1) tT aT)] ++ List.flatten ([] : List va_W)) := hD
  refine lv_aload_n hx hb dX9_fail_5 rfl (lv_at hl 0 rfl) ?_
  refine lv_aload_n hx hb dX9_fail_6 rfl (lv_at hl 0 rfl) ?_
  refine va_get (D := (dC, dI)) (ci := 9) (v := .int (tT 2)) (C := RX9) (T := TX9) (N := 10) hx hb hts (fun w h => List.mem_cons_of_mem _ (List.mem_append_right _ (List.mem_append_left _ h))) hown hK hP 0 rfl rfl 7 (by decide) (hts (.fieldLink RX9 161 "SagMemory$Tape" "start" "I") (wl_mem 1 rfl)) (fun _ h9 => h9) rfl dX9_fail_7 ?_
  have bz1 := htT 2
  refine va_put (D := (dC, dI)) (ci := 9) (v := .int (tT 2)) (ty := .int) (C := RX9) (T := TX9) (N := 10) hx hb hts (fun w h => List.mem_cons_of_mem _ (List.mem_append_right _ (List.mem_append_left _ h))) tyX9 tyX9_ok nmX9 hown hK hP hD hS 0 rfl rfl 4 (by decide) (hts (.fieldLink RX9 22 "SagMemory$Tape" "place" "I") (wl_mem 2 rfl)) (fun _ h9 => h9) rfl (by decide +kernel) rfl rfl (Nat.le_of_ble_eq_true rfl) dX9_fail_10 (fun H locs hP hD hS => ?_)
  have hP : va_P (dC, dI) vwCl (List.flatten [(wTape qT k readT (va_up (va_up vT 0 p1) 1 (tT 2)) tT aT)] ++ List.flatten ([] : List va_W)) H := hP
  have hD : va_D A (List.flatten [(wTape qT k readT (va_up (va_up vT 0 p1) 1 (tT 2)) tT aT)] ++ List.flatten ([] : List va_W)) := hD
  refine lv_iconst (v := 0) hx hb dX9_fail_13 (by decide) ?_
  rw [hQ]
  exact W.zret (v := (0 : Int32)) hx hb hr rfl (fun t ht hW => ⟨⟨(0 : Int32), (), rfl, ⟨(by show (0 : Int) = 0; omega), (by show (0 : Int) = 0 ∨ (0 : Int) = 1; omega)⟩, (va_up (va_up vT 0 p1) 1 (tT 2)), tT, aT, htT, by rw [ht]; exact hP⟩, hS.F ht⟩) hS.2.2 dX9_fail_14
def wk_c_X9_isLetter : List Cond := .code yX9_isLetter cX9_isLetter 1 (some .boolean) :: ([] ++ ([]))
theorem wkg_c_X9_isLetter : wk_c_X9_isLetter.all goodWord = true := by decide +kernel
set_option maxHeartbeats 4000000 in
set_option maxRecDepth 100000 in
theorem c_X9_isLetter (l : Launch) (dC : Nat → ClassId) (dI : Nat → Nat → Nat) (k : Nat → ClassId) (p1 : Int32) : Met l yX9_isLetter wk_c_X9_isLetter ({ frames := 0, cells := 0, slots := 0, locals := 0 }) (va_Pc [.int p1] (fun U => va_P (dC, dI) vwCl (List.flatten ([] : List va_W)) U.heap ∧ va_K (dC, dI) vwCl (tK k) U)) (vp_Si (fun r : Int32 => (r = 0 ∧ p1 < (97 : Int32)) ∨ (r = 0 ∧ ¬ p1 < (97 : Int32) ∧ (122 : Int32) < p1) ∨ (r = 1 ∧ ¬ p1 < (97 : Int32) ∧ ¬ (122 : Int32) < p1))) 0 0 (fun _ => False) := by
  refine Met.ofW (cc := cX9_isLetter) (maxL := 1) (ret := (some .boolean)) (by decide) rfl ?_
  intro p e s m args below meth c s₁ B hml hv
  obtain ⟨rfl, hP, hK⟩ := hv
  have hx := B.exec
  have hb := B.bytes
  have hr := B.returns
  have hts := atoms_spec (ws := wk_c_X9_isLetter) B.pre
  have hown : s.vm.findClass RX9 = some m.cls := findClass_of_methodNamed B.named
  have hlocks := B.notSynchronized
  have hP : va_P (dC, dI) vwCl (List.flatten ([] : List va_W)) s.heap := hP
  have hl := lv_entry ([.int p1]) (n := 1) (Nat.le_of_ble_eq_true rfl)
  rw [lg_entry_eq]
  generalize (lg_sl ([.int p1]) ++ List.replicate (1 - (lg_sl ([.int p1])).length) Slot.unset).toArray = ls at hl ⊢
  have hl : lv_has ls 1 [(0, .int p1)] := hl
  refine w_gen (fun Q hQ => ?_)
  refine lv_iload_n hx hb dX9_isLetter_0 rfl (lv_at hl 0 rfl) ?_
  refine lv_bipush (v := 97) hx hb dX9_isLetter_1 (by decide) ?_
  refine lv_icmp_lt (tgt := 16) hx hb dX9_isLetter_3 (by decide) (fun cz1 => ?_) (fun cz1 => ?_)
  · skip
    have bz2 := fb_rng p1
    have zz3 : p1.toInt < (97 : Int) := zi_lt.mp cz1
    refine lv_iconst (v := 0) hx hb dX9_isLetter_16 (by decide) ?_
    rw [hQ]
    exact W.zret (v := (0 : Int32)) hx hb hr rfl (fun t ht hW => ⟨(0 : Int32), rfl, Or.inl ⟨rfl, cz1⟩, ht⟩) (fun _ h => absurd h List.not_mem_nil) dX9_isLetter_17
  · skip
    have bz4 := fb_rng p1
    have zz5 : ¬ p1.toInt < (97 : Int) := fun h9 => cz1 (zi_lt.mpr h9)
    refine lv_iload_n hx hb dX9_isLetter_6 rfl (lv_at hl 0 rfl) ?_
    refine lv_bipush (v := 122) hx hb dX9_isLetter_7 (by decide) ?_
    refine lv_icmp_gt (tgt := 16) hx hb dX9_isLetter_9 (by decide) (fun cz6 => ?_) (fun cz6 => ?_)
    · skip
      have zz7 : (122 : Int) < p1.toInt := zi_lt.mp cz6
      refine lv_iconst (v := 0) hx hb dX9_isLetter_16 (by decide) ?_
      rw [hQ]
      exact W.zret (v := (0 : Int32)) hx hb hr rfl (fun t ht hW => ⟨(0 : Int32), rfl, Or.inr (Or.inl ⟨rfl, cz1, cz6⟩), ht⟩) (fun _ h => absurd h List.not_mem_nil) dX9_isLetter_17
    · skip
      have zz8 : ¬ (122 : Int) < p1.toInt := fun h9 => cz6 (zi_lt.mpr h9)
      refine lv_iconst (v := 1) hx hb dX9_isLetter_12 (by decide) ?_
      refine lv_goto (tgt := 17) hx hb dX9_isLetter_13 (by decide) ?_
      rw [hQ]
      exact W.zret (v := (1 : Int32)) hx hb hr rfl (fun t ht hW => ⟨(1 : Int32), rfl, Or.inr (Or.inr (⟨rfl, cz1, cz6⟩)), ht⟩) (fun _ h => absurd h List.not_mem_nil) dX9_isLetter_17
def wk_c_X9_isDigit : List Cond := .code yX9_isDigit cX9_isDigit 1 (some .boolean) :: ([] ++ ([]))
theorem wkg_c_X9_isDigit : wk_c_X9_isDigit.all goodWord = true := by decide +kernel
set_option maxHeartbeats 4000000 in
set_option maxRecDepth 100000 in
theorem c_X9_isDigit (l : Launch) (dC : Nat → ClassId) (dI : Nat → Nat → Nat) (k : Nat → ClassId) (p1 : Int32) : Met l yX9_isDigit wk_c_X9_isDigit ({ frames := 0, cells := 0, slots := 0, locals := 0 }) (va_Pc [.int p1] (fun U => va_P (dC, dI) vwCl (List.flatten ([] : List va_W)) U.heap ∧ va_K (dC, dI) vwCl (tK k) U)) (vp_Si (fun r : Int32 => (r = 0 ∧ p1 < (48 : Int32)) ∨ (r = 0 ∧ ¬ p1 < (48 : Int32) ∧ (57 : Int32) < p1) ∨ (r = 1 ∧ ¬ p1 < (48 : Int32) ∧ ¬ (57 : Int32) < p1))) 0 0 (fun _ => False) := by
  refine Met.ofW (cc := cX9_isDigit) (maxL := 1) (ret := (some .boolean)) (by decide) rfl ?_
  intro p e s m args below meth c s₁ B hml hv
  obtain ⟨rfl, hP, hK⟩ := hv
  have hx := B.exec
  have hb := B.bytes
  have hr := B.returns
  have hts := atoms_spec (ws := wk_c_X9_isDigit) B.pre
  have hown : s.vm.findClass RX9 = some m.cls := findClass_of_methodNamed B.named
  have hlocks := B.notSynchronized
  have hP : va_P (dC, dI) vwCl (List.flatten ([] : List va_W)) s.heap := hP
  have hl := lv_entry ([.int p1]) (n := 1) (Nat.le_of_ble_eq_true rfl)
  rw [lg_entry_eq]
  generalize (lg_sl ([.int p1]) ++ List.replicate (1 - (lg_sl ([.int p1])).length) Slot.unset).toArray = ls at hl ⊢
  have hl : lv_has ls 1 [(0, .int p1)] := hl
  refine w_gen (fun Q hQ => ?_)
  refine lv_iload_n hx hb dX9_isDigit_0 rfl (lv_at hl 0 rfl) ?_
  refine lv_bipush (v := 48) hx hb dX9_isDigit_1 (by decide) ?_
  refine lv_icmp_lt (tgt := 16) hx hb dX9_isDigit_3 (by decide) (fun cz1 => ?_) (fun cz1 => ?_)
  · skip
    have bz2 := fb_rng p1
    have zz3 : p1.toInt < (48 : Int) := zi_lt.mp cz1
    refine lv_iconst (v := 0) hx hb dX9_isDigit_16 (by decide) ?_
    rw [hQ]
    exact W.zret (v := (0 : Int32)) hx hb hr rfl (fun t ht hW => ⟨(0 : Int32), rfl, Or.inl ⟨rfl, cz1⟩, ht⟩) (fun _ h => absurd h List.not_mem_nil) dX9_isDigit_17
  · skip
    have bz4 := fb_rng p1
    have zz5 : ¬ p1.toInt < (48 : Int) := fun h9 => cz1 (zi_lt.mpr h9)
    refine lv_iload_n hx hb dX9_isDigit_6 rfl (lv_at hl 0 rfl) ?_
    refine lv_bipush (v := 57) hx hb dX9_isDigit_7 (by decide) ?_
    refine lv_icmp_gt (tgt := 16) hx hb dX9_isDigit_9 (by decide) (fun cz6 => ?_) (fun cz6 => ?_)
    · skip
      have zz7 : (57 : Int) < p1.toInt := zi_lt.mp cz6
      refine lv_iconst (v := 0) hx hb dX9_isDigit_16 (by decide) ?_
      rw [hQ]
      exact W.zret (v := (0 : Int32)) hx hb hr rfl (fun t ht hW => ⟨(0 : Int32), rfl, Or.inr (Or.inl ⟨rfl, cz1, cz6⟩), ht⟩) (fun _ h => absurd h List.not_mem_nil) dX9_isDigit_17
    · skip
      have zz8 : ¬ (57 : Int) < p1.toInt := fun h9 => cz6 (zi_lt.mpr h9)
      refine lv_iconst (v := 1) hx hb dX9_isDigit_12 (by decide) ?_
      refine lv_goto (tgt := 17) hx hb dX9_isDigit_13 (by decide) ?_
      rw [hQ]
      exact W.zret (v := (1 : Int32)) hx hb hr rfl (fun t ht hW => ⟨(1 : Int32), rfl, Or.inr (Or.inr (⟨rfl, cz1, cz6⟩)), ht⟩) (fun _ h => absurd h List.not_mem_nil) dX9_isDigit_17
def wk_c_X9_next : List Cond := .code yX9_next cX9_next 1 none :: ([.fieldLink RX9 35 "SagMemory$Tape" "at" "I", .fieldLink RX9 26 "SagMemory$Tape" "length" "I", .fieldLink RX9 9 "SagMemory$Tape" "bytes" "[I", .fieldLink RX9 161 "SagMemory$Tape" "start" "I", .fieldLink RX9 41 "SagMemory$Tape" "kind" "I", .methodLink RX9 173 yX9_isLetter, .static yX9_isLetter, .initialized RX9, .methodLink RX9 176 yX9_isDigit, .static yX9_isDigit, .fieldLink RX9 151 "SagMemory$Tape" "value" "I", .constant RX9 179 (100000), .methodLink RX9 180 Lib.Math.min.name, .static Lib.Math.min.name, .initialized "java/lang/Math", .code Lib.Math.min.name Lib.Math.min.code 2 (some .int)] ++ (wsX90 ++ (wk_c_X9_isLetter ++ (wk_c_X9_isDigit ++ []))))
theorem wkg_c_X9_next : wk_c_X9_next.all goodWord = true := by decide +kernel
set_option maxHeartbeats 4000000 in
set_option maxRecDepth 100000 in
theorem c_X9_next (l : Launch) (dC : Nat → ClassId) (dI : Nat → Nat → Nat) (k : Nat → ClassId) (sz : Nat) (qT : Nat → Nat) (readT : Nat) (vT : Nat → Int32) (tT : Nat → Int32) (aT : Nat → Nat → Int32) (htT : Rg 0 700 tT) : Met l yX9_next wk_c_X9_next ({ frames := 1, cells := 0, slots := 0, locals := 80 }) (va_Pc [.ref (qT 0)] (fun U => U.heap.size = sz ∧ va_P (dC, dI) vwCl (List.flatten [(wTape qT k readT vT tT aT)] ++ List.flatten ([] : List va_W)) U.heap ∧ va_K (dC, dI) vwCl (tK k) U ∧ va_D (fun _ => True) (List.flatten [(wTape qT k readT vT tT aT)] ++ List.flatten ([] : List va_W)))) (va_Qv (fun _ : Unit => True) (fun (_ : Unit) (t : State) => ∃ (vT' : Nat → Int32) (tT' : Nat → Int32) (aT' : Nat → Nat → Int32), Rg 0 700 tT' ∧ ((vT' 4).toInt = (vT 4).toInt) ∧ va_P (dC, dI) vwCl (List.flatten [(wTape qT k readT vT' tT' aT')] ++ List.flatten ([] : List va_W)) t.heap) (va_A (List.flatten [(wTape qT k readT vT tT aT)] ++ List.flatten ([] : List va_W)) sz)) 0 0 (va_A (List.flatten [(wTape qT k readT vT tT aT)] ++ List.flatten ([] : List va_W)) sz) := by
  refine Met.ofW (cc := cX9_next) (maxL := 1) (ret := none) (by decide) rfl ?_
  intro p e s m args below meth c s₁ B hml hv
  obtain ⟨rfl, hsz, hP, hK, hD0⟩ := hv
  have hx := B.exec
  have hb := B.bytes
  have hr := B.returns
  have hts := atoms_spec (ws := wk_c_X9_next) B.pre
  have hown : s.vm.findClass RX9 = some m.cls := findClass_of_methodNamed B.named
  have hlocks := B.notSynchronized
  subst hsz
  have hD := hD0.self (sz := s.heap.size)
  generalize hAe : va_A (List.flatten [(wTape qT k readT vT tT aT)] ++ List.flatten ([] : List va_W)) s.heap.size = A at hD ⊢
  have hA : ∀ q : Nat, s.heap.size ≤ q → A q := fun q h => by rw [← hAe]; exact Or.inr h
  have hS : va_S A s.heap s.heap [] := va_S.rf
  have hP : va_P (dC, dI) vwCl (List.flatten [(wTape qT k readT vT tT aT)] ++ List.flatten ([] : List va_W)) s.heap := hP
  have hl := lv_entry ([.ref (qT 0)]) (n := 1) (Nat.le_of_ble_eq_true rfl)
  rw [lg_entry_eq]
  generalize (lg_sl ([.ref (qT 0)]) ++ List.replicate (1 - (lg_sl ([.ref (qT 0)])).length) Slot.unset).toArray = ls at hl ⊢
  have hl : lv_has ls 1 [(0, .ref (qT 0))] := hl
  refine w_gen (fun Q hQ => ?_)
  have lp0_kz1069 : ∀ (n9_0 : Nat) (H : Heap) (locs : List Loc) (ls : Array Slot) (tz1068 : Nat → Int32), (700 - (tz1068 1).toInt).toNat < n9_0 → Rg 0 700 tz1068 → (vT 4).toInt = (vT 4).toInt → va_P (dC, dI) vwCl (List.flatten [(wTape qT k readT vT tz1068 aT)] ++ List.flatten ([] : List va_W)) H → va_D A (List.flatten [(wTape qT k readT vT tz1068 aT)] ++ List.flatten ([] : List va_W)) → va_S A s.heap H locs → lv_has ls 1 [(0, .ref (qT 0))] → W p l e (headSpec wk_c_X9_next ({ frames := 1, cells := 0, slots := 0, locals := 80 })).room s m ([.ref (qT 0)] : List Value).toArray below meth c H locs 0 0 Q (F0 m 0 ls []) := by
    intro n9_0
    induction n9_0 with
    | zero => intro H locs ls tz1068 hm; exact absurd hm (Nat.not_lt_zero _)
    | succ n9_0 ih0 =>
      intro H locs ls tz1068 hm0 htz1068 jz1070 hP hD hS hl
      refine lv_aload_n hx hb dX9_next_0 rfl (lv_at hl 0 rfl) ?_
      refine va_get (D := (dC, dI)) (ci := 9) (v := .int (tz1068 1)) (C := RX9) (T := TX9) (N := 10) hx hb hts (fun w h => List.mem_cons_of_mem _ (List.mem_append_right _ (List.mem_append_left _ h))) hown hK hP 0 rfl rfl 5 (by decide) (hts (.fieldLink RX9 35 "SagMemory$Tape" "at" "I") (wl_mem 0 rfl)) (fun _ h9 => h9) rfl dX9_next_1 ?_
      have bz1071 := htz1068 1
      refine lv_aload_n hx hb dX9_next_4 rfl (lv_at hl 0 rfl) ?_
      refine va_get (D := (dC, dI)) (ci := 9) (v := .int (tz1068 0)) (C := RX9) (T := TX9) (N := 10) hx hb hts (fun w h => List.mem_cons_of_mem _ (List.mem_append_right _ (List.mem_append_left _ h))) hown hK hP 0 rfl rfl 2 (by decide) (hts (.fieldLink RX9 26 "SagMemory$Tape" "length" "I") (wl_mem 1 rfl)) (fun _ h9 => h9) rfl dX9_next_5 ?_
      have bz1072 := htz1068 0
      have ct52_kz2112 : ∀ (H : Heap) (locs : List Loc) (ls : Array Slot), (vT 4).toInt = (vT 4).toInt → va_P (dC, dI) vwCl (List.flatten [(wTape qT k readT vT tz1068 aT)] ++ List.flatten ([] : List va_W)) H → va_D A (List.flatten [(wTape qT k readT vT tz1068 aT)] ++ List.flatten ([] : List va_W)) → va_S A s.heap H locs → lv_has ls 1 [(0, .ref (qT 0))] → W p l e (headSpec wk_c_X9_next ({ frames := 1, cells := 0, slots := 0, locals := 80 })).room s m ([.ref (qT 0)] : List Value).toArray below meth c H locs 0 0 Q (F0 m 52 ls []) := by
        intro H locs ls jz2113 hP hD hS hl
        refine lv_aload_n hx hb dX9_next_52 rfl (lv_at hl 0 rfl) ?_
        refine lv_aload_n hx hb dX9_next_53 rfl (lv_at hl 0 rfl) ?_
        refine va_get (D := (dC, dI)) (ci := 9) (v := .int (tz1068 1)) (C := RX9) (T := TX9) (N := 10) hx hb hts (fun w h => List.mem_cons_of_mem _ (List.mem_append_right _ (List.mem_append_left _ h))) hown hK hP 0 rfl rfl 5 (by decide) (hts (.fieldLink RX9 35 "SagMemory$Tape" "at" "I") (wl_mem 0 rfl)) (fun _ h9 => h9) rfl dX9_next_54 ?_
        refine va_put (D := (dC, dI)) (ci := 9) (v := .int (tz1068 1)) (ty := .int) (C := RX9) (T := TX9) (N := 10) hx hb hts (fun w h => List.mem_cons_of_mem _ (List.mem_append_right _ (List.mem_append_left _ h))) tyX9 tyX9_ok nmX9 hown hK hP hD hS 0 rfl rfl 7 (by decide) (hts (.fieldLink RX9 161 "SagMemory$Tape" "start" "I") (wl_mem 3 rfl)) (fun _ h9 => h9) rfl (by decide +kernel) rfl rfl (Nat.le_of_ble_eq_true rfl) dX9_next_57 (fun H locs hP hD hS => ?_)
        have hP : va_P (dC, dI) vwCl (List.flatten [(wTape qT k readT vT (va_up tz1068 2 (tz1068 1)) aT)] ++ List.flatten ([] : List va_W)) H := hP
        have hD : va_D A (List.flatten [(wTape qT k readT vT (va_up tz1068 2 (tz1068 1)) aT)] ++ List.flatten ([] : List va_W)) := hD
        refine lv_aload_n hx hb dX9_next_60 rfl (lv_at hl 0 rfl) ?_
        refine va_get (D := (dC, dI)) (ci := 9) (v := .int (tz1068 1)) (C := RX9) (T := TX9) (N := 10) hx hb hts (fun w h => List.mem_cons_of_mem _ (List.mem_append_right _ (List.mem_append_left _ h))) hown hK hP 0 rfl rfl 5 (by decide) (hts (.fieldLink RX9 35 "SagMemory$Tape" "at" "I") (wl_mem 0 rfl)) (fun _ h9 => h9) rfl dX9_next_61 ?_
        refine lv_aload_n hx hb dX9_next_64 rfl (lv_at hl 0 rfl) ?_
        refine va_get (D := (dC, dI)) (ci := 9) (v := .int (tz1068 0)) (C := RX9) (T := TX9) (N := 10) hx hb hts (fun w h => List.mem_cons_of_mem _ (List.mem_append_right _ (List.mem_append_left _ h))) hown hK hP 0 rfl rfl 2 (by decide) (hts (.fieldLink RX9 26 "SagMemory$Tape" "length" "I") (wl_mem 1 rfl)) (fun _ h9 => h9) rfl dX9_next_65 ?_
        refine lv_icmp_lt (tgt := 77) hx hb dX9_next_68 (by decide) (fun cz2114 => ?_) (fun cz2114 => ?_)
        · skip
          have zz2115 : (tz1068 1).toInt < (tz1068 0).toInt := zi_lt.mp cz2114
          refine lv_aload_n hx hb dX9_next_77 rfl (lv_at hl 0 rfl) ?_
          refine lv_aload_n hx hb dX9_next_78 rfl (lv_at hl 0 rfl) ?_
          refine va_get (D := (dC, dI)) (ci := 9) (v := .ref (qT 1)) (C := RX9) (T := TX9) (N := 10) hx hb hts (fun w h => List.mem_cons_of_mem _ (List.mem_append_right _ (List.mem_append_left _ h))) hown hK hP 0 rfl rfl 0 (by decide) (hts (.fieldLink RX9 9 "SagMemory$Tape" "bytes" "[I") (wl_mem 2 rfl)) (fun _ h9 => h9) rfl dX9_next_79 ?_
          refine lv_aload_n hx hb dX9_next_82 rfl (lv_at hl 0 rfl) ?_
          refine va_get (D := (dC, dI)) (ci := 9) (v := .int (tz1068 1)) (C := RX9) (T := TX9) (N := 10) hx hb hts (fun w h => List.mem_cons_of_mem _ (List.mem_append_right _ (List.mem_append_left _ h))) hown hK hP 0 rfl rfl 5 (by decide) (hts (.fieldLink RX9 35 "SagMemory$Tape" "at" "I") (wl_mem 0 rfl)) (fun _ h9 => h9) rfl dX9_next_83 ?_
          refine va_iald hx hb hK hP 1 0 rfl rfl (vp_in_iff.mpr ⟨by omega, by omega⟩) dX9_next_86 ?_
          refine lv_topi (fun xz2116 exz2116 => ?_)
          refine lv_bipush (v := 59) hx hb dX9_next_87 (by decide) ?_
          refine lv_icmp_ne (tgt := 96) hx hb dX9_next_89 (by decide) (fun cz2624 => ?_) (fun cz2624 => ?_)
          · skip
            have zz2625 : ¬ xz2116.toInt = (59 : Int) := fun h9 => cz2624 (zi_eq.mpr h9)
            refine lv_iconst (v := 4) hx hb dX9_next_96 (by decide) ?_
            refine va_put (D := (dC, dI)) (ci := 9) (v := .int 4) (ty := .int) (C := RX9) (T := TX9) (N := 10) hx hb hts (fun w h => List.mem_cons_of_mem _ (List.mem_append_right _ (List.mem_append_left _ h))) tyX9 tyX9_ok nmX9 hown hK hP hD hS 0 rfl rfl 6 (by decide) (hts (.fieldLink RX9 41 "SagMemory$Tape" "kind" "I") (wl_mem 4 rfl)) (fun _ h9 => h9) rfl (by decide +kernel) rfl rfl (Nat.le_of_ble_eq_true rfl) dX9_next_97 (fun H locs hP hD hS => ?_)
            have hP : va_P (dC, dI) vwCl (List.flatten [(wTape qT k readT (va_up vT 2 (4 : Int32)) (va_up tz1068 2 (tz1068 1)) aT)] ++ List.flatten ([] : List va_W)) H := hP
            have hD : va_D A (List.flatten [(wTape qT k readT (va_up vT 2 (4 : Int32)) (va_up tz1068 2 (tz1068 1)) aT)] ++ List.flatten ([] : List va_W)) := hD
            refine lv_aload_n hx hb dX9_next_100 rfl (lv_at hl 0 rfl) ?_
            refine lv_dup hx hb dX9_next_101 rfl ?_
            refine va_get (D := (dC, dI)) (ci := 9) (v := .int (tz1068 1)) (C := RX9) (T := TX9) (N := 10) hx hb hts (fun w h => List.mem_cons_of_mem _ (List.mem_append_right _ (List.mem_append_left _ h))) hown hK hP 0 rfl rfl 5 (by decide) (hts (.fieldLink RX9 35 "SagMemory$Tape" "at" "I") (wl_mem 0 rfl)) (fun _ h9 => h9) rfl dX9_next_102 ?_
            refine lv_iconst (v := 1) hx hb dX9_next_105 (by decide) ?_
            refine lv_iadd hx hb dX9_next_106 ?_
            refine lv_topi (fun xz2626 exz2626 => ?_)
            have fxz2626 : xz2626.toInt = (tz1068 1).toInt + (1 : Int) := by rw [exz2626]; exact fb_addI (x := (tz1068 1)) (y := (1 : Int32)) (by show -2147483648 ≤ (tz1068 1).toInt + (1 : Int); omega) (by show (tz1068 1).toInt + (1 : Int) < 2147483648; omega)
            refine va_put (D := (dC, dI)) (ci := 9) (v := .int xz2626) (ty := .int) (C := RX9) (T := TX9) (N := 10) hx hb hts (fun w h => List.mem_cons_of_mem _ (List.mem_append_right _ (List.mem_append_left _ h))) tyX9 tyX9_ok nmX9 hown hK hP hD hS 0 rfl rfl 5 (by decide) (hts (.fieldLink RX9 35 "SagMemory$Tape" "at" "I") (wl_mem 0 rfl)) (fun _ h9 => h9) rfl (by decide +kernel) rfl rfl (Nat.le_of_ble_eq_true rfl) dX9_next_107 (fun H locs hP hD hS => ?_)
            have hP : va_P (dC, dI) vwCl (List.flatten [(wTape qT k readT (va_up vT 2 (4 : Int32)) (va_up (va_up tz1068 2 (tz1068 1)) 1 xz2626) aT)] ++ List.flatten ([] : List va_W)) H := hP
            have hD : va_D A (List.flatten [(wTape qT k readT (va_up vT 2 (4 : Int32)) (va_up (va_up tz1068 2 (tz1068 1)) 1 xz2626) aT)] ++ List.flatten ([] : List va_W)) := hD
            refine lv_aload_n hx hb dX9_next_110 rfl (lv_at hl 0 rfl) ?_
            refine va_get (D := (dC, dI)) (ci := 9) (v := .ref (qT 1)) (C := RX9) (T := TX9) (N := 10) hx hb hts (fun w h => List.mem_cons_of_mem _ (List.mem_append_right _ (List.mem_append_left _ h))) hown hK hP 0 rfl rfl 0 (by decide) (hts (.fieldLink RX9 9 "SagMemory$Tape" "bytes" "[I") (wl_mem 2 rfl)) (fun _ h9 => h9) rfl dX9_next_111 ?_
            refine lv_aload_n hx hb dX9_next_114 rfl (lv_at hl 0 rfl) ?_
            refine va_get (D := (dC, dI)) (ci := 9) (v := .int (tz1068 1)) (C := RX9) (T := TX9) (N := 10) hx hb hts (fun w h => List.mem_cons_of_mem _ (List.mem_append_right _ (List.mem_append_left _ h))) hown hK hP 0 rfl rfl 7 (by decide) (hts (.fieldLink RX9 161 "SagMemory$Tape" "start" "I") (wl_mem 3 rfl)) (fun _ h9 => h9) rfl dX9_next_115 ?_
            refine va_iald hx hb hK hP 1 0 rfl rfl (vp_in_iff.mpr ⟨by omega, by omega⟩) dX9_next_118 ?_
            refine lv_topi (fun xz2627 exz2627 => ?_)
            have hPc : va_P (dC, dI) vwCl (List.flatten ([] : List va_W)) H := fun k q h => by simp at h
            refine vp_callSi (va_Run.run (va_runS (As := [.int xz2627]) (rest := []) ⟨hx, hb, hml, hown, hts⟩ (c_X9_isLetter l dC dI k xz2627) (va_cwS 1 hts (gk_S (wl_mem 5 rfl) (wl_mem 6 rfl) (wl_mem 7 rfl) (fun w h => List.mem_cons_of_mem _ (List.mem_append_right _ (List.mem_append_right _ (List.mem_append_left _ h)))) wkg_c_X9_isLetter) rfl rfl rfl (by decide +kernel) ⟨Nat.le_of_ble_eq_true rfl, Nat.le_of_ble_eq_true rfl⟩) ⟨fun a U g mk q => by obtain ⟨q0, qP, qK⟩ := q; exact ⟨q0, qP, va_K.moved (u := U) (U := U.calling g mk a) (Vm.Alike.refl U.vm) qK⟩, fun U hU hW => ⟨rfl, by rw [hU]; exact hPc, va_K.moved hW.alike hK⟩⟩ rfl rfl hl.1 rfl (lv_room (Nat.le_of_ble_eq_true rfl)) dX9_next_119 ⟨Nat.le_of_ble_eq_true rfl, Nat.le_of_ble_eq_true rfl⟩)) (fun rz2629 gz2628 => ?_)
            clear hPc
            rcases gz2628 with ⟨er, cz2630⟩ | ⟨er, cz2631, cz2632⟩ | ⟨er, cz2633, cz2634⟩
            · obtain rfl := er.symm
              have bz2635 := fb_rng xz2627
              have zz2636 : xz2627.toInt < (97 : Int) := zi_lt.mp cz2630
              refine lv_if_eq (tgt := 169) hx hb dX9_next_122 (by decide) (fun cz2637 => ?_) (fun cz2637 => ?_)
              · skip
                refine lv_aload_n hx hb dX9_next_169 rfl (lv_at hl 0 rfl) ?_
                refine va_get (D := (dC, dI)) (ci := 9) (v := .ref (qT 1)) (C := RX9) (T := TX9) (N := 10) hx hb hts (fun w h => List.mem_cons_of_mem _ (List.mem_append_right _ (List.mem_append_left _ h))) hown hK hP 0 rfl rfl 0 (by decide) (hts (.fieldLink RX9 9 "SagMemory$Tape" "bytes" "[I") (wl_mem 2 rfl)) (fun _ h9 => h9) rfl dX9_next_170 ?_
                refine lv_aload_n hx hb dX9_next_173 rfl (lv_at hl 0 rfl) ?_
                refine va_get (D := (dC, dI)) (ci := 9) (v := .int (tz1068 1)) (C := RX9) (T := TX9) (N := 10) hx hb hts (fun w h => List.mem_cons_of_mem _ (List.mem_append_right _ (List.mem_append_left _ h))) hown hK hP 0 rfl rfl 7 (by decide) (hts (.fieldLink RX9 161 "SagMemory$Tape" "start" "I") (wl_mem 3 rfl)) (fun _ h9 => h9) rfl dX9_next_174 ?_
                refine va_iald hx hb hK hP 1 0 rfl rfl (vp_in_iff.mpr ⟨by omega, by omega⟩) dX9_next_177 ?_
                refine lv_topi (fun xz2638 exz2638 => ?_)
                have hPc : va_P (dC, dI) vwCl (List.flatten ([] : List va_W)) H := fun k q h => by simp at h
                refine vp_callSi (va_Run.run (va_runS (As := [.int xz2638]) (rest := []) ⟨hx, hb, hml, hown, hts⟩ (c_X9_isDigit l dC dI k xz2638) (va_cwS 1 hts (gk_S (wl_mem 8 rfl) (wl_mem 9 rfl) (wl_mem 7 rfl) (fun w h => List.mem_cons_of_mem _ (List.mem_append_right _ (List.mem_append_right _ (List.mem_append_right _ (List.mem_append_left _ h))))) wkg_c_X9_isDigit) rfl rfl rfl (by decide +kernel) ⟨Nat.le_of_ble_eq_true rfl, Nat.le_of_ble_eq_true rfl⟩) ⟨fun a U g mk q => by obtain ⟨q0, qP, qK⟩ := q; exact ⟨q0, qP, va_K.moved (u := U) (U := U.calling g mk a) (Vm.Alike.refl U.vm) qK⟩, fun U hU hW => ⟨rfl, by rw [hU]; exact hPc, va_K.moved hW.alike hK⟩⟩ rfl rfl hl.1 rfl (lv_room (Nat.le_of_ble_eq_true rfl)) dX9_next_178 ⟨Nat.le_of_ble_eq_true rfl, Nat.le_of_ble_eq_true rfl⟩)) (fun rz2640 gz2639 => ?_)
                clear hPc
                rcases gz2639 with ⟨er, cz2641⟩ | ⟨er, cz2642, cz2643⟩ | ⟨er, cz2644, cz2645⟩
                · obtain rfl := er.symm
                  have bz2646 := fb_rng xz2638
                  have zz2647 : xz2638.toInt < (48 : Int) := zi_lt.mp cz2641
                  refine lv_if_eq (tgt := 273) hx hb dX9_next_181 (by decide) (fun cz2648 => ?_) (fun cz2648 => ?_)
                  · skip
                    rw [hQ]
                    exact W.vret hx hb hr (fun t ht hW => ⟨⟨(), rfl, trivial, (va_up vT 2 (4 : Int32)), (va_up (va_up tz1068 2 (tz1068 1)) 1 xz2626), aT, (rg_up (rg_up htz1068 (by show 0 ≤ (tz1068 1).toInt ∧ (tz1068 1).toInt ≤ 700; omega)) (by show 0 ≤ xz2626.toInt ∧ xz2626.toInt ≤ 700; omega)), (by show (vT 4).toInt = (vT 4).toInt; omega), by rw [ht]; exact hP⟩, hS.F ht⟩) hS.2.2 dX9_next_273
                  · skip
                    exact absurd cz2648 (by decide)
                · obtain rfl := er.symm
                  have bz2649 := fb_rng xz2638
                  have zz2650 : ¬ xz2638.toInt < (48 : Int) := fun h9 => cz2642 (zi_lt.mpr h9)
                  have zz2651 : (57 : Int) < xz2638.toInt := zi_lt.mp cz2643
                  refine lv_if_eq (tgt := 273) hx hb dX9_next_181 (by decide) (fun cz2652 => ?_) (fun cz2652 => ?_)
                  · skip
                    rw [hQ]
                    exact W.vret hx hb hr (fun t ht hW => ⟨⟨(), rfl, trivial, (va_up vT 2 (4 : Int32)), (va_up (va_up tz1068 2 (tz1068 1)) 1 xz2626), aT, (rg_up (rg_up htz1068 (by show 0 ≤ (tz1068 1).toInt ∧ (tz1068 1).toInt ≤ 700; omega)) (by show 0 ≤ xz2626.toInt ∧ xz2626.toInt ≤ 700; omega)), (by show (vT 4).toInt = (vT 4).toInt; omega), by rw [ht]; exact hP⟩, hS.F ht⟩) hS.2.2 dX9_next_273
                  · skip
                    exact absurd cz2652 (by decide)
                · obtain rfl := er.symm
                  have bz2653 := fb_rng xz2638
                  have zz2654 : ¬ xz2638.toInt < (48 : Int) := fun h9 => cz2644 (zi_lt.mpr h9)
                  have zz2655 : ¬ (57 : Int) < xz2638.toInt := fun h9 => cz2645 (zi_lt.mpr h9)
                  refine lv_if_eq (tgt := 273) hx hb dX9_next_181 (by decide) (fun cz2656 => ?_) (fun cz2656 => ?_)
                  · skip
                    exact absurd cz2656 (by decide)
                  · skip
                    refine lv_aload_n hx hb dX9_next_184 rfl (lv_at hl 0 rfl) ?_
                    refine lv_iconst (v := 2) hx hb dX9_next_185 (by decide) ?_
                    refine va_put (D := (dC, dI)) (ci := 9) (v := .int 2) (ty := .int) (C := RX9) (T := TX9) (N := 10) hx hb hts (fun w h => List.mem_cons_of_mem _ (List.mem_append_right _ (List.mem_append_left _ h))) tyX9 tyX9_ok nmX9 hown hK hP hD hS 0 rfl rfl 6 (by decide) (hts (.fieldLink RX9 41 "SagMemory$Tape" "kind" "I") (wl_mem 4 rfl)) (fun _ h9 => h9) rfl (by decide +kernel) rfl rfl (Nat.le_of_ble_eq_true rfl) dX9_next_186 (fun H locs hP hD hS => ?_)
                    have hP : va_P (dC, dI) vwCl (List.flatten [(wTape qT k readT (va_up vT 2 (2 : Int32)) (va_up (va_up tz1068 2 (tz1068 1)) 1 xz2626) aT)] ++ List.flatten ([] : List va_W)) H := hP
                    have hD : va_D A (List.flatten [(wTape qT k readT (va_up vT 2 (2 : Int32)) (va_up (va_up tz1068 2 (tz1068 1)) 1 xz2626) aT)] ++ List.flatten ([] : List va_W)) := hD
                    refine lv_aload_n hx hb dX9_next_189 rfl (lv_at hl 0 rfl) ?_
                    refine lv_aload_n hx hb dX9_next_190 rfl (lv_at hl 0 rfl) ?_
                    refine va_get (D := (dC, dI)) (ci := 9) (v := .ref (qT 1)) (C := RX9) (T := TX9) (N := 10) hx hb hts (fun w h => List.mem_cons_of_mem _ (List.mem_append_right _ (List.mem_append_left _ h))) hown hK hP 0 rfl rfl 0 (by decide) (hts (.fieldLink RX9 9 "SagMemory$Tape" "bytes" "[I") (wl_mem 2 rfl)) (fun _ h9 => h9) rfl dX9_next_191 ?_
                    refine lv_aload_n hx hb dX9_next_194 rfl (lv_at hl 0 rfl) ?_
                    refine va_get (D := (dC, dI)) (ci := 9) (v := .int (tz1068 1)) (C := RX9) (T := TX9) (N := 10) hx hb hts (fun w h => List.mem_cons_of_mem _ (List.mem_append_right _ (List.mem_append_left _ h))) hown hK hP 0 rfl rfl 7 (by decide) (hts (.fieldLink RX9 161 "SagMemory$Tape" "start" "I") (wl_mem 3 rfl)) (fun _ h9 => h9) rfl dX9_next_195 ?_
                    refine va_iald hx hb hK hP 1 0 rfl rfl (vp_in_iff.mpr ⟨by omega, by omega⟩) dX9_next_198 ?_
                    refine lv_topi (fun xz2657 exz2657 => ?_)
                    refine lv_bipush (v := 48) hx hb dX9_next_199 (by decide) ?_
                    refine lv_isub hx hb dX9_next_201 ?_
                    refine lv_topi (fun xz2658 exz2658 => ?_)
                    refine va_put (D := (dC, dI)) (ci := 9) (v := .int xz2658) (ty := .int) (C := RX9) (T := TX9) (N := 10) hx hb hts (fun w h => List.mem_cons_of_mem _ (List.mem_append_right _ (List.mem_append_left _ h))) tyX9 tyX9_ok nmX9 hown hK hP hD hS 0 rfl rfl 8 (by decide) (hts (.fieldLink RX9 151 "SagMemory$Tape" "value" "I") (wl_mem 10 rfl)) (fun _ h9 => h9) rfl (by decide +kernel) rfl rfl (Nat.le_of_ble_eq_true rfl) dX9_next_202 (fun H locs hP hD hS => ?_)
                    have hP : va_P (dC, dI) vwCl (List.flatten [(wTape qT k readT (va_up (va_up vT 2 (2 : Int32)) 3 xz2658) (va_up (va_up tz1068 2 (tz1068 1)) 1 xz2626) aT)] ++ List.flatten ([] : List va_W)) H := hP
                    have hD : va_D A (List.flatten [(wTape qT k readT (va_up (va_up vT 2 (2 : Int32)) 3 xz2658) (va_up (va_up tz1068 2 (tz1068 1)) 1 xz2626) aT)] ++ List.flatten ([] : List va_W)) := hD
                    have lp205_kz2694 : ∀ (n9_205 : Nat) (H : Heap) (locs : List Loc) (ls : Array Slot) (tz2692 : Nat → Int32) (vz2693 : Nat → Int32), (700 - (tz2692 1).toInt).toNat < n9_205 → Rg 0 700 tz2692 → (vz2693 4).toInt = (vT 4).toInt → va_P (dC, dI) vwCl (List.flatten [(wTape qT k readT vz2693 tz2692 aT)] ++ List.flatten ([] : List va_W)) H → va_D A (List.flatten [(wTape qT k readT vz2693 tz2692 aT)] ++ List.flatten ([] : List va_W)) → va_S A s.heap H locs → lv_has ls 1 [(0, .ref (qT 0))] → W p l e (headSpec wk_c_X9_next ({ frames := 1, cells := 0, slots := 0, locals := 80 })).room s m ([.ref (qT 0)] : List Value).toArray below meth c H locs 0 0 Q (F0 m 205 ls []) := by
                      intro n9_205
                      induction n9_205 with
                      | zero => intro H locs ls tz2692 vz2693 hm; exact absurd hm (Nat.not_lt_zero _)
                      | succ n9_205 ih205 =>
                        intro H locs ls tz2692 vz2693 hm205 htz2692 jz2695 hP hD hS hl
                        refine lv_aload_n hx hb dX9_next_205 rfl (lv_at hl 0 rfl) ?_
                        refine va_get (D := (dC, dI)) (ci := 9) (v := .int (tz2692 1)) (C := RX9) (T := TX9) (N := 10) hx hb hts (fun w h => List.mem_cons_of_mem _ (List.mem_append_right _ (List.mem_append_left _ h))) hown hK hP 0 rfl rfl 5 (by decide) (hts (.fieldLink RX9 35 "SagMemory$Tape" "at" "I") (wl_mem 0 rfl)) (fun _ h9 => h9) rfl dX9_next_206 ?_
                        have bz2696 := htz2692 1
                        refine lv_aload_n hx hb dX9_next_209 rfl (lv_at hl 0 rfl) ?_
                        refine va_get (D := (dC, dI)) (ci := 9) (v := .int (tz2692 0)) (C := RX9) (T := TX9) (N := 10) hx hb hts (fun w h => List.mem_cons_of_mem _ (List.mem_append_right _ (List.mem_append_left _ h))) hown hK hP 0 rfl rfl 2 (by decide) (hts (.fieldLink RX9 26 "SagMemory$Tape" "length" "I") (wl_mem 1 rfl)) (fun _ h9 => h9) rfl dX9_next_210 ?_
                        have bz2697 := htz2692 0
                        refine lv_icmp_ge (tgt := 273) hx hb dX9_next_213 (by decide) (fun cz2698 => ?_) (fun cz2698 => ?_)
                        · skip
                          have zz2699 : (tz2692 0).toInt ≤ (tz2692 1).toInt := zi_le.mp cz2698
                          rw [hQ]
                          exact W.vret hx hb hr (fun t ht hW => ⟨⟨(), rfl, trivial, vz2693, tz2692, aT, htz2692, (by show (vz2693 4).toInt = (vT 4).toInt; omega), by rw [ht]; exact hP⟩, hS.F ht⟩) hS.2.2 dX9_next_273
                        · skip
                          have zz2700 : ¬ (tz2692 0).toInt ≤ (tz2692 1).toInt := fun h9 => cz2698 (zi_le.mpr h9)
                          refine lv_aload_n hx hb dX9_next_216 rfl (lv_at hl 0 rfl) ?_
                          refine va_get (D := (dC, dI)) (ci := 9) (v := .ref (qT 1)) (C := RX9) (T := TX9) (N := 10) hx hb hts (fun w h => List.mem_cons_of_mem _ (List.mem_append_right _ (List.mem_append_left _ h))) hown hK hP 0 rfl rfl 0 (by decide) (hts (.fieldLink RX9 9 "SagMemory$Tape" "bytes" "[I") (wl_mem 2 rfl)) (fun _ h9 => h9) rfl dX9_next_217 ?_
                          refine lv_aload_n hx hb dX9_next_220 rfl (lv_at hl 0 rfl) ?_
                          refine va_get (D := (dC, dI)) (ci := 9) (v := .int (tz2692 1)) (C := RX9) (T := TX9) (N := 10) hx hb hts (fun w h => List.mem_cons_of_mem _ (List.mem_append_right _ (List.mem_append_left _ h))) hown hK hP 0 rfl rfl 5 (by decide) (hts (.fieldLink RX9 35 "SagMemory$Tape" "at" "I") (wl_mem 0 rfl)) (fun _ h9 => h9) rfl dX9_next_221 ?_
                          refine va_iald hx hb hK hP 1 0 rfl rfl (vp_in_iff.mpr ⟨by omega, by omega⟩) dX9_next_224 ?_
                          refine lv_topi (fun xz2701 exz2701 => ?_)
                          have hPc : va_P (dC, dI) vwCl (List.flatten ([] : List va_W)) H := fun k q h => by simp at h
                          refine vp_callSi (va_Run.run (va_runS (As := [.int xz2701]) (rest := []) ⟨hx, hb, hml, hown, hts⟩ (c_X9_isDigit l dC dI k xz2701) (va_cwS 1 hts (gk_S (wl_mem 8 rfl) (wl_mem 9 rfl) (wl_mem 7 rfl) (fun w h => List.mem_cons_of_mem _ (List.mem_append_right _ (List.mem_append_right _ (List.mem_append_right _ (List.mem_append_left _ h))))) wkg_c_X9_isDigit) rfl rfl rfl (by decide +kernel) ⟨Nat.le_of_ble_eq_true rfl, Nat.le_of_ble_eq_true rfl⟩) ⟨fun a U g mk q => by obtain ⟨q0, qP, qK⟩ := q; exact ⟨q0, qP, va_K.moved (u := U) (U := U.calling g mk a) (Vm.Alike.refl U.vm) qK⟩, fun U hU hW => ⟨rfl, by rw [hU]; exact hPc, va_K.moved hW.alike hK⟩⟩ rfl rfl hl.1 rfl (lv_room (Nat.le_of_ble_eq_true rfl)) dX9_next_225 ⟨Nat.le_of_ble_eq_true rfl, Nat.le_of_ble_eq_true rfl⟩)) (fun rz2703 gz2702 => ?_)
                          clear hPc
                          rcases gz2702 with ⟨er, cz2704⟩ | ⟨er, cz2705, cz2706⟩ | ⟨er, cz2707, cz2708⟩
                          · obtain rfl := er.symm
                            have bz2709 := fb_rng xz2701
                            have zz2710 : xz2701.toInt < (48 : Int) := zi_lt.mp cz2704
                            refine lv_if_eq (tgt := 273) hx hb dX9_next_228 (by decide) (fun cz2711 => ?_) (fun cz2711 => ?_)
                            · skip
                              rw [hQ]
                              exact W.vret hx hb hr (fun t ht hW => ⟨⟨(), rfl, trivial, vz2693, tz2692, aT, htz2692, (by show (vz2693 4).toInt = (vT 4).toInt; omega), by rw [ht]; exact hP⟩, hS.F ht⟩) hS.2.2 dX9_next_273
                            · skip
                              exact absurd cz2711 (by decide)
                          · obtain rfl := er.symm
                            have bz2712 := fb_rng xz2701
                            have zz2713 : ¬ xz2701.toInt < (48 : Int) := fun h9 => cz2705 (zi_lt.mpr h9)
                            have zz2714 : (57 : Int) < xz2701.toInt := zi_lt.mp cz2706
                            refine lv_if_eq (tgt := 273) hx hb dX9_next_228 (by decide) (fun cz2715 => ?_) (fun cz2715 => ?_)
                            · skip
                              rw [hQ]
                              exact W.vret hx hb hr (fun t ht hW => ⟨⟨(), rfl, trivial, vz2693, tz2692, aT, htz2692, (by show (vz2693 4).toInt = (vT 4).toInt; omega), by rw [ht]; exact hP⟩, hS.F ht⟩) hS.2.2 dX9_next_273
                            · skip
                              exact absurd cz2715 (by decide)
                          · obtain rfl := er.symm
                            have bz2716 := fb_rng xz2701
                            have zz2717 : ¬ xz2701.toInt < (48 : Int) := fun h9 => cz2707 (zi_lt.mpr h9)
                            have zz2718 : ¬ (57 : Int) < xz2701.toInt := fun h9 => cz2708 (zi_lt.mpr h9)
                            refine lv_if_eq (tgt := 273) hx hb dX9_next_228 (by decide) (fun cz2719 => ?_) (fun cz2719 => ?_)
                            · skip
                              exact absurd cz2719 (by decide)
                            · skip
                              refine lv_aload_n hx hb dX9_next_231 rfl (lv_at hl 0 rfl) ?_
                              refine lv_ldc (v := 100000) hx hb hown (hts (.constant RX9 179 (100000)) (wl_mem 11 rfl)) dX9_next_232 ?_
                              refine lv_aload_n hx hb dX9_next_234 rfl (lv_at hl 0 rfl) ?_
                              refine va_get (D := (dC, dI)) (ci := 9) (v := .int (vz2693 3)) (C := RX9) (T := TX9) (N := 10) hx hb hts (fun w h => List.mem_cons_of_mem _ (List.mem_append_right _ (List.mem_append_left _ h))) hown hK hP 0 rfl rfl 8 (by decide) (hts (.fieldLink RX9 151 "SagMemory$Tape" "value" "I") (wl_mem 10 rfl)) (fun _ h9 => h9) rfl dX9_next_235 ?_
                              refine lv_bipush (v := 10) hx hb dX9_next_238 (by decide) ?_
                              refine lv_imul hx hb dX9_next_240 ?_
                              refine lv_topi (fun xz2720 exz2720 => ?_)
                              refine lv_aload_n hx hb dX9_next_241 rfl (lv_at hl 0 rfl) ?_
                              refine va_get (D := (dC, dI)) (ci := 9) (v := .ref (qT 1)) (C := RX9) (T := TX9) (N := 10) hx hb hts (fun w h => List.mem_cons_of_mem _ (List.mem_append_right _ (List.mem_append_left _ h))) hown hK hP 0 rfl rfl 0 (by decide) (hts (.fieldLink RX9 9 "SagMemory$Tape" "bytes" "[I") (wl_mem 2 rfl)) (fun _ h9 => h9) rfl dX9_next_242 ?_
                              refine lv_aload_n hx hb dX9_next_245 rfl (lv_at hl 0 rfl) ?_
                              refine va_get (D := (dC, dI)) (ci := 9) (v := .int (tz2692 1)) (C := RX9) (T := TX9) (N := 10) hx hb hts (fun w h => List.mem_cons_of_mem _ (List.mem_append_right _ (List.mem_append_left _ h))) hown hK hP 0 rfl rfl 5 (by decide) (hts (.fieldLink RX9 35 "SagMemory$Tape" "at" "I") (wl_mem 0 rfl)) (fun _ h9 => h9) rfl dX9_next_246 ?_
                              refine va_iald hx hb hK hP 1 0 rfl rfl (vp_in_iff.mpr ⟨by omega, by omega⟩) dX9_next_249 ?_
                              refine lv_topi (fun xz2721 exz2721 => ?_)
                              refine lv_iadd hx hb dX9_next_250 ?_
                              refine lv_topi (fun xz2722 exz2722 => ?_)
                              refine lv_bipush (v := 48) hx hb dX9_next_251 (by decide) ?_
                              refine lv_isub hx hb dX9_next_253 ?_
                              refine lv_topi (fun xz2723 exz2723 => ?_)
                              refine va_mmin hx hb (by rw [hml]; exact hl.1.symm) hown (hts (.methodLink RX9 180 Lib.Math.min.name) (wl_mem 12 rfl)) (hts (.static Lib.Math.min.name) (wl_mem 13 rfl)) (hts (.initialized "java/lang/Math") (wl_mem 14 rfl)) (hts (.code Lib.Math.min.name Lib.Math.min.code 2 (some .int)) (wl_mem 15 rfl)) (Nat.le_of_ble_eq_true rfl) (Nat.le_of_ble_eq_true rfl) (Nat.zero_le _) (Nat.zero_le _) dX9_next_254 ?_
                              refine lv_topi (fun xz2724 exz2724 => ?_)
                              refine va_put (D := (dC, dI)) (ci := 9) (v := .int xz2724) (ty := .int) (C := RX9) (T := TX9) (N := 10) hx hb hts (fun w h => List.mem_cons_of_mem _ (List.mem_append_right _ (List.mem_append_left _ h))) tyX9 tyX9_ok nmX9 hown hK hP hD hS 0 rfl rfl 8 (by decide) (hts (.fieldLink RX9 151 "SagMemory$Tape" "value" "I") (wl_mem 10 rfl)) (fun _ h9 => h9) rfl (by decide +kernel) rfl rfl (Nat.le_of_ble_eq_true rfl) dX9_next_257 (fun H locs hP hD hS => ?_)
                              have hP : va_P (dC, dI) vwCl (List.flatten [(wTape qT k readT (va_up vz2693 3 xz2724) tz2692 aT)] ++ List.flatten ([] : List va_W)) H := hP
                              have hD : va_D A (List.flatten [(wTape qT k readT (va_up vz2693 3 xz2724) tz2692 aT)] ++ List.flatten ([] : List va_W)) := hD
                              refine lv_aload_n hx hb dX9_next_260 rfl (lv_at hl 0 rfl) ?_
                              refine lv_dup hx hb dX9_next_261 rfl ?_
                              refine va_get (D := (dC, dI)) (ci := 9) (v := .int (tz2692 1)) (C := RX9) (T := TX9) (N := 10) hx hb hts (fun w h => List.mem_cons_of_mem _ (List.mem_append_right _ (List.mem_append_left _ h))) hown hK hP 0 rfl rfl 5 (by decide) (hts (.fieldLink RX9 35 "SagMemory$Tape" "at" "I") (wl_mem 0 rfl)) (fun _ h9 => h9) rfl dX9_next_262 ?_
                              refine lv_iconst (v := 1) hx hb dX9_next_265 (by decide) ?_
                              refine lv_iadd hx hb dX9_next_266 ?_
                              refine lv_topi (fun xz2725 exz2725 => ?_)
                              have fxz2725 : xz2725.toInt = (tz2692 1).toInt + (1 : Int) := by rw [exz2725]; exact fb_addI (x := (tz2692 1)) (y := (1 : Int32)) (by show -2147483648 ≤ (tz2692 1).toInt + (1 : Int); omega) (by show (tz2692 1).toInt + (1 : Int) < 2147483648; omega)
                              refine va_put (D := (dC, dI)) (ci := 9) (v := .int xz2725) (ty := .int) (C := RX9) (T := TX9) (N := 10) hx hb hts (fun w h => List.mem_cons_of_mem _ (List.mem_append_right _ (List.mem_append_left _ h))) tyX9 tyX9_ok nmX9 hown hK hP hD hS 0 rfl rfl 5 (by decide) (hts (.fieldLink RX9 35 "SagMemory$Tape" "at" "I") (wl_mem 0 rfl)) (fun _ h9 => h9) rfl (by decide +kernel) rfl rfl (Nat.le_of_ble_eq_true rfl) dX9_next_267 (fun H locs hP hD hS => ?_)
                              have hP : va_P (dC, dI) vwCl (List.flatten [(wTape qT k readT (va_up vz2693 3 xz2724) (va_up tz2692 1 xz2725) aT)] ++ List.flatten ([] : List va_W)) H := hP
                              have hD : va_D A (List.flatten [(wTape qT k readT (va_up vz2693 3 xz2724) (va_up tz2692 1 xz2725) aT)] ++ List.flatten ([] : List va_W)) := hD
                              refine lv_goto (tgt := 205) hx hb dX9_next_270 (by decide) ?_
                              exact ih205 H locs ls (va_up tz2692 1 xz2725) (va_up vz2693 3 xz2724) (by show (700 - xz2725.toInt).toNat < n9_205; omega) (rg_up htz2692 (by show 0 ≤ xz2725.toInt ∧ xz2725.toInt ≤ 700; omega)) (by show (vz2693 4).toInt = (vT 4).toInt; omega) hP hD hS (lv_sub hl [0] rfl)
                    exact lp205_kz2694 _ H locs ls (va_up (va_up tz1068 2 (tz1068 1)) 1 xz2626) (va_up (va_up vT 2 (2 : Int32)) 3 xz2658) (Nat.lt_succ_self _) (rg_up (rg_up htz1068 (by show 0 ≤ (tz1068 1).toInt ∧ (tz1068 1).toInt ≤ 700; omega)) (by show 0 ≤ xz2626.toInt ∧ xz2626.toInt ≤ 700; omega)) (by show (vT 4).toInt = (vT 4).toInt; omega) hP hD hS (lv_sub hl [0] rfl)
              · skip
                exact absurd cz2637 (by decide)
            · obtain rfl := er.symm
              have bz2726 := fb_rng xz2627
              have zz2727 : ¬ xz2627.toInt < (97 : Int) := fun h9 => cz2631 (zi_lt.mpr h9)
              have zz2728 : (122 : Int) < xz2627.toInt := zi_lt.mp cz2632
              refine lv_if_eq (tgt := 169) hx hb dX9_next_122 (by decide) (fun cz2729 => ?_) (fun cz2729 => ?_)
              · skip
                refine lv_aload_n hx hb dX9_next_169 rfl (lv_at hl 0 rfl) ?_
                refine va_get (D := (dC, dI)) (ci := 9) (v := .ref (qT 1)) (C := RX9) (T := TX9) (N := 10) hx hb hts (fun w h => List.mem_cons_of_mem _ (List.mem_append_right _ (List.mem_append_left _ h))) hown hK hP 0 rfl rfl 0 (by decide) (hts (.fieldLink RX9 9 "SagMemory$Tape" "bytes" "[I") (wl_mem 2 rfl)) (fun _ h9 => h9) rfl dX9_next_170 ?_
                refine lv_aload_n hx hb dX9_next_173 rfl (lv_at hl 0 rfl) ?_
                refine va_get (D := (dC, dI)) (ci := 9) (v := .int (tz1068 1)) (C := RX9) (T := TX9) (N := 10) hx hb hts (fun w h => List.mem_cons_of_mem _ (List.mem_append_right _ (List.mem_append_left _ h))) hown hK hP 0 rfl rfl 7 (by decide) (hts (.fieldLink RX9 161 "SagMemory$Tape" "start" "I") (wl_mem 3 rfl)) (fun _ h9 => h9) rfl dX9_next_174 ?_
                refine va_iald hx hb hK hP 1 0 rfl rfl (vp_in_iff.mpr ⟨by omega, by omega⟩) dX9_next_177 ?_
                refine lv_topi (fun xz2730 exz2730 => ?_)
                have hPc : va_P (dC, dI) vwCl (List.flatten ([] : List va_W)) H := fun k q h => by simp at h
                refine vp_callSi (va_Run.run (va_runS (As := [.int xz2730]) (rest := []) ⟨hx, hb, hml, hown, hts⟩ (c_X9_isDigit l dC dI k xz2730) (va_cwS 1 hts (gk_S (wl_mem 8 rfl) (wl_mem 9 rfl) (wl_mem 7 rfl) (fun w h => List.mem_cons_of_mem _ (List.mem_append_right _ (List.mem_append_right _ (List.mem_append_right _ (List.mem_append_left _ h))))) wkg_c_X9_isDigit) rfl rfl rfl (by decide +kernel) ⟨Nat.le_of_ble_eq_true rfl, Nat.le_of_ble_eq_true rfl⟩) ⟨fun a U g mk q => by obtain ⟨q0, qP, qK⟩ := q; exact ⟨q0, qP, va_K.moved (u := U) (U := U.calling g mk a) (Vm.Alike.refl U.vm) qK⟩, fun U hU hW => ⟨rfl, by rw [hU]; exact hPc, va_K.moved hW.alike hK⟩⟩ rfl rfl hl.1 rfl (lv_room (Nat.le_of_ble_eq_true rfl)) dX9_next_178 ⟨Nat.le_of_ble_eq_true rfl, Nat.le_of_ble_eq_true rfl⟩)) (fun rz2732 gz2731 => ?_)
                clear hPc
                rcases gz2731 with ⟨er, cz2733⟩ | ⟨er, cz2734, cz2735⟩ | ⟨er, cz2736, cz2737⟩
                · obtain rfl := er.symm
                  have bz2738 := fb_rng xz2730
                  have zz2739 : xz2730.toInt < (48 : Int) := zi_lt.mp cz2733
                  refine lv_if_eq (tgt := 273) hx hb dX9_next_181 (by decide) (fun cz2740 => ?_) (fun cz2740 => ?_)
                  · skip
                    rw [hQ]
                    exact W.vret hx hb hr (fun t ht hW => ⟨⟨(), rfl, trivial, (va_up vT 2 (4 : Int32)), (va_up (va_up tz1068 2 (tz1068 1)) 1 xz2626), aT, (rg_up (rg_up htz1068 (by show 0 ≤ (tz1068 1).toInt ∧ (tz1068 1).toInt ≤ 700; omega)) (by show 0 ≤ xz2626.toInt ∧ xz2626.toInt ≤ 700; omega)), (by show (vT 4).toInt = (vT 4).toInt; omega), by rw [ht]; exact hP⟩, hS.F ht⟩) hS.2.2 dX9_next_273
                  · skip
                    exact absurd cz2740 (by decide)
                · obtain rfl := er.symm
                  have bz2741 := fb_rng xz2730
                  have zz2742 : ¬ xz2730.toInt < (48 : Int) := fun h9 => cz2734 (zi_lt.mpr h9)
                  have zz2743 : (57 : Int) < xz2730.toInt := zi_lt.mp cz2735
                  refine lv_if_eq (tgt := 273) hx hb dX9_next_181 (by decide) (fun cz2744 => ?_) (fun cz2744 => ?_)
                  · skip
                    rw [hQ]
                    exact W.vret hx hb hr (fun t ht hW => ⟨⟨(), rfl, trivial, (va_up vT 2 (4 : Int32)), (va_up (va_up tz1068 2 (tz1068 1)) 1 xz2626), aT, (rg_up (rg_up htz1068 (by show 0 ≤ (tz1068 1).toInt ∧ (tz1068 1).toInt ≤ 700; omega)) (by show 0 ≤ xz2626.toInt ∧ xz2626.toInt ≤ 700; omega)), (by show (vT 4).toInt = (vT 4).toInt; omega), by rw [ht]; exact hP⟩, hS.F ht⟩) hS.2.2 dX9_next_273
                  · skip
                    exact absurd cz2744 (by decide)
                · obtain rfl := er.symm
                  have bz2745 := fb_rng xz2730
                  have zz2746 : ¬ xz2730.toInt < (48 : Int) := fun h9 => cz2736 (zi_lt.mpr h9)
                  have zz2747 : ¬ (57 : Int) < xz2730.toInt := fun h9 => cz2737 (zi_lt.mpr h9)
                  refine lv_if_eq (tgt := 273) hx hb dX9_next_181 (by decide) (fun cz2748 => ?_) (fun cz2748 => ?_)
                  · skip
                    exact absurd cz2748 (by decide)
                  · skip
                    refine lv_aload_n hx hb dX9_next_184 rfl (lv_at hl 0 rfl) ?_
                    refine lv_iconst (v := 2) hx hb dX9_next_185 (by decide) ?_
                    refine va_put (D := (dC, dI)) (ci := 9) (v := .int 2) (ty := .int) (C := RX9) (T := TX9) (N := 10) hx hb hts (fun w h => List.mem_cons_of_mem _ (List.mem_append_right _ (List.mem_append_left _ h))) tyX9 tyX9_ok nmX9 hown hK hP hD hS 0 rfl rfl 6 (by decide) (hts (.fieldLink RX9 41 "SagMemory$Tape" "kind" "I") (wl_mem 4 rfl)) (fun _ h9 => h9) rfl (by decide +kernel) rfl rfl (Nat.le_of_ble_eq_true rfl) dX9_next_186 (fun H locs hP hD hS => ?_)
                    have hP : va_P (dC, dI) vwCl (List.flatten [(wTape qT k readT (va_up vT 2 (2 : Int32)) (va_up (va_up tz1068 2 (tz1068 1)) 1 xz2626) aT)] ++ List.flatten ([] : List va_W)) H := hP
                    have hD : va_D A (List.flatten [(wTape qT k readT (va_up vT 2 (2 : Int32)) (va_up (va_up tz1068 2 (tz1068 1)) 1 xz2626) aT)] ++ List.flatten ([] : List va_W)) := hD
                    refine lv_aload_n hx hb dX9_next_189 rfl (lv_at hl 0 rfl) ?_
                    refine lv_aload_n hx hb dX9_next_190 rfl (lv_at hl 0 rfl) ?_
                    refine va_get (D := (dC, dI)) (ci := 9) (v := .ref (qT 1)) (C := RX9) (T := TX9) (N := 10) hx hb hts (fun w h => List.mem_cons_of_mem _ (List.mem_append_right _ (List.mem_append_left _ h))) hown hK hP 0 rfl rfl 0 (by decide) (hts (.fieldLink RX9 9 "SagMemory$Tape" "bytes" "[I") (wl_mem 2 rfl)) (fun _ h9 => h9) rfl dX9_next_191 ?_
                    refine lv_aload_n hx hb dX9_next_194 rfl (lv_at hl 0 rfl) ?_
                    refine va_get (D := (dC, dI)) (ci := 9) (v := .int (tz1068 1)) (C := RX9) (T := TX9) (N := 10) hx hb hts (fun w h => List.mem_cons_of_mem _ (List.mem_append_right _ (List.mem_append_left _ h))) hown hK hP 0 rfl rfl 7 (by decide) (hts (.fieldLink RX9 161 "SagMemory$Tape" "start" "I") (wl_mem 3 rfl)) (fun _ h9 => h9) rfl dX9_next_195 ?_
                    refine va_iald hx hb hK hP 1 0 rfl rfl (vp_in_iff.mpr ⟨by omega, by omega⟩) dX9_next_198 ?_
                    refine lv_topi (fun xz2749 exz2749 => ?_)
                    refine lv_bipush (v := 48) hx hb dX9_next_199 (by decide) ?_
                    refine lv_isub hx hb dX9_next_201 ?_
                    refine lv_topi (fun xz2750 exz2750 => ?_)
                    refine va_put (D := (dC, dI)) (ci := 9) (v := .int xz2750) (ty := .int) (C := RX9) (T := TX9) (N := 10) hx hb hts (fun w h => List.mem_cons_of_mem _ (List.mem_append_right _ (List.mem_append_left _ h))) tyX9 tyX9_ok nmX9 hown hK hP hD hS 0 rfl rfl 8 (by decide) (hts (.fieldLink RX9 151 "SagMemory$Tape" "value" "I") (wl_mem 10 rfl)) (fun _ h9 => h9) rfl (by decide +kernel) rfl rfl (Nat.le_of_ble_eq_true rfl) dX9_next_202 (fun H locs hP hD hS => ?_)
                    have hP : va_P (dC, dI) vwCl (List.flatten [(wTape qT k readT (va_up (va_up vT 2 (2 : Int32)) 3 xz2750) (va_up (va_up tz1068 2 (tz1068 1)) 1 xz2626) aT)] ++ List.flatten ([] : List va_W)) H := hP
                    have hD : va_D A (List.flatten [(wTape qT k readT (va_up (va_up vT 2 (2 : Int32)) 3 xz2750) (va_up (va_up tz1068 2 (tz1068 1)) 1 xz2626) aT)] ++ List.flatten ([] : List va_W)) := hD
                    have lp205_kz2786 : ∀ (n9_205 : Nat) (H : Heap) (locs : List Loc) (ls : Array Slot) (tz2784 : Nat → Int32) (vz2785 : Nat → Int32), (700 - (tz2784 1).toInt).toNat < n9_205 → Rg 0 700 tz2784 → (vz2785 4).toInt = (vT 4).toInt → va_P (dC, dI) vwCl (List.flatten [(wTape qT k readT vz2785 tz2784 aT)] ++ List.flatten ([] : List va_W)) H → va_D A (List.flatten [(wTape qT k readT vz2785 tz2784 aT)] ++ List.flatten ([] : List va_W)) → va_S A s.heap H locs → lv_has ls 1 [(0, .ref (qT 0))] → W p l e (headSpec wk_c_X9_next ({ frames := 1, cells := 0, slots := 0, locals := 80 })).room s m ([.ref (qT 0)] : List Value).toArray below meth c H locs 0 0 Q (F0 m 205 ls []) := by
                      intro n9_205
                      induction n9_205 with
                      | zero => intro H locs ls tz2784 vz2785 hm; exact absurd hm (Nat.not_lt_zero _)
                      | succ n9_205 ih205 =>
                        intro H locs ls tz2784 vz2785 hm205 htz2784 jz2787 hP hD hS hl
                        refine lv_aload_n hx hb dX9_next_205 rfl (lv_at hl 0 rfl) ?_
                        refine va_get (D := (dC, dI)) (ci := 9) (v := .int (tz2784 1)) (C := RX9) (T := TX9) (N := 10) hx hb hts (fun w h => List.mem_cons_of_mem _ (List.mem_append_right _ (List.mem_append_left _ h))) hown hK hP 0 rfl rfl 5 (by decide) (hts (.fieldLink RX9 35 "SagMemory$Tape" "at" "I") (wl_mem 0 rfl)) (fun _ h9 => h9) rfl dX9_next_206 ?_
                        have bz2788 := htz2784 1
                        refine lv_aload_n hx hb dX9_next_209 rfl (lv_at hl 0 rfl) ?_
                        refine va_get (D := (dC, dI)) (ci := 9) (v := .int (tz2784 0)) (C := RX9) (T := TX9) (N := 10) hx hb hts (fun w h => List.mem_cons_of_mem _ (List.mem_append_right _ (List.mem_append_left _ h))) hown hK hP 0 rfl rfl 2 (by decide) (hts (.fieldLink RX9 26 "SagMemory$Tape" "length" "I") (wl_mem 1 rfl)) (fun _ h9 => h9) rfl dX9_next_210 ?_
                        have bz2789 := htz2784 0
                        refine lv_icmp_ge (tgt := 273) hx hb dX9_next_213 (by decide) (fun cz2790 => ?_) (fun cz2790 => ?_)
                        · skip
                          have zz2791 : (tz2784 0).toInt ≤ (tz2784 1).toInt := zi_le.mp cz2790
                          rw [hQ]
                          exact W.vret hx hb hr (fun t ht hW => ⟨⟨(), rfl, trivial, vz2785, tz2784, aT, htz2784, (by show (vz2785 4).toInt = (vT 4).toInt; omega), by rw [ht]; exact hP⟩, hS.F ht⟩) hS.2.2 dX9_next_273
                        · skip
                          have zz2792 : ¬ (tz2784 0).toInt ≤ (tz2784 1).toInt := fun h9 => cz2790 (zi_le.mpr h9)
                          refine lv_aload_n hx hb dX9_next_216 rfl (lv_at hl 0 rfl) ?_
                          refine va_get (D := (dC, dI)) (ci := 9) (v := .ref (qT 1)) (C := RX9) (T := TX9) (N := 10) hx hb hts (fun w h => List.mem_cons_of_mem _ (List.mem_append_right _ (List.mem_append_left _ h))) hown hK hP 0 rfl rfl 0 (by decide) (hts (.fieldLink RX9 9 "SagMemory$Tape" "bytes" "[I") (wl_mem 2 rfl)) (fun _ h9 => h9) rfl dX9_next_217 ?_
                          refine lv_aload_n hx hb dX9_next_220 rfl (lv_at hl 0 rfl) ?_
                          refine va_get (D := (dC, dI)) (ci := 9) (v := .int (tz2784 1)) (C := RX9) (T := TX9) (N := 10) hx hb hts (fun w h => List.mem_cons_of_mem _ (List.mem_append_right _ (List.mem_append_left _ h))) hown hK hP 0 rfl rfl 5 (by decide) (hts (.fieldLink RX9 35 "SagMemory$Tape" "at" "I") (wl_mem 0 rfl)) (fun _ h9 => h9) rfl dX9_next_221 ?_
                          refine va_iald hx hb hK hP 1 0 rfl rfl (vp_in_iff.mpr ⟨by omega, by omega⟩) dX9_next_224 ?_
                          refine lv_topi (fun xz2793 exz2793 => ?_)
                          have hPc : va_P (dC, dI) vwCl (List.flatten ([] : List va_W)) H := fun k q h => by simp at h
                          refine vp_callSi (va_Run.run (va_runS (As := [.int xz2793]) (rest := []) ⟨hx, hb, hml, hown, hts⟩ (c_X9_isDigit l dC dI k xz2793) (va_cwS 1 hts (gk_S (wl_mem 8 rfl) (wl_mem 9 rfl) (wl_mem 7 rfl) (fun w h => List.mem_cons_of_mem _ (List.mem_append_right _ (List.mem_append_right _ (List.mem_append_right _ (List.mem_append_left _ h))))) wkg_c_X9_isDigit) rfl rfl rfl (by decide +kernel) ⟨Nat.le_of_ble_eq_true rfl, Nat.le_of_ble_eq_true rfl⟩) ⟨fun a U g mk q => by obtain ⟨q0, qP, qK⟩ := q; exact ⟨q0, qP, va_K.moved (u := U) (U := U.calling g mk a) (Vm.Alike.refl U.vm) qK⟩, fun U hU hW => ⟨rfl, by rw [hU]; exact hPc, va_K.moved hW.alike hK⟩⟩ rfl rfl hl.1 rfl (lv_room (Nat.le_of_ble_eq_true rfl)) dX9_next_225 ⟨Nat.le_of_ble_eq_true rfl, Nat.le_of_ble_eq_true rfl⟩)) (fun rz2795 gz2794 => ?_)
                          clear hPc
                          rcases gz2794 with ⟨er, cz2796⟩ | ⟨er, cz2797, cz2798⟩ | ⟨er, cz2799, cz2800⟩
                          · obtain rfl := er.symm
                            have bz2801 := fb_rng xz2793
                            have zz2802 : xz2793.toInt < (48 : Int) := zi_lt.mp cz2796
                            refine lv_if_eq (tgt := 273) hx hb dX9_next_228 (by decide) (fun cz2803 => ?_) (fun cz2803 => ?_)
                            · skip
                              rw [hQ]
                              exact W.vret hx hb hr (fun t ht hW => ⟨⟨(), rfl, trivial, vz2785, tz2784, aT, htz2784, (by show (vz2785 4).toInt = (vT 4).toInt; omega), by rw [ht]; exact hP⟩, hS.F ht⟩) hS.2.2 dX9_next_273
                            · skip
                              exact absurd cz2803 (by decide)
                          · obtain rfl := er.symm
                            have bz2804 := fb_rng xz2793
                            have zz2805 : ¬ xz2793.toInt < (48 : Int) := fun h9 => cz2797 (zi_lt.mpr h9)
                            have zz2806 : (57 : Int) < xz2793.toInt := zi_lt.mp cz2798
                            refine lv_if_eq (tgt := 273) hx hb dX9_next_228 (by decide) (fun cz2807 => ?_) (fun cz2807 => ?_)
                            · skip
                              rw [hQ]
                              exact W.vret hx hb hr (fun t ht hW => ⟨⟨(), rfl, trivial, vz2785, tz2784, aT, htz2784, (by show (vz2785 4).toInt = (vT 4).toInt; omega), by rw [ht]; exact hP⟩, hS.F ht⟩) hS.2.2 dX9_next_273
                            · skip
                              exact absurd cz2807 (by decide)
                          · obtain rfl := er.symm
                            have bz2808 := fb_rng xz2793
                            have zz2809 : ¬ xz2793.toInt < (48 : Int) := fun h9 => cz2799 (zi_lt.mpr h9)
                            have zz2810 : ¬ (57 : Int) < xz2793.toInt := fun h9 => cz2800 (zi_lt.mpr h9)
                            refine lv_if_eq (tgt := 273) hx hb dX9_next_228 (by decide) (fun cz2811 => ?_) (fun cz2811 => ?_)
                            · skip
                              exact absurd cz2811 (by decide)
                            · skip
                              refine lv_aload_n hx hb dX9_next_231 rfl (lv_at hl 0 rfl) ?_
                              refine lv_ldc (v := 100000) hx hb hown (hts (.constant RX9 179 (100000)) (wl_mem 11 rfl)) dX9_next_232 ?_
                              refine lv_aload_n hx hb dX9_next_234 rfl (lv_at hl 0 rfl) ?_
                              refine va_get (D := (dC, dI)) (ci := 9) (v := .int (vz2785 3)) (C := RX9) (T := TX9) (N := 10) hx hb hts (fun w h => List.mem_cons_of_mem _ (List.mem_append_right _ (List.mem_append_left _ h))) hown hK hP 0 rfl rfl 8 (by decide) (hts (.fieldLink RX9 151 "SagMemory$Tape" "value" "I") (wl_mem 10 rfl)) (fun _ h9 => h9) rfl dX9_next_235 ?_
                              refine lv_bipush (v := 10) hx hb dX9_next_238 (by decide) ?_
                              refine lv_imul hx hb dX9_next_240 ?_
                              refine lv_topi (fun xz2812 exz2812 => ?_)
                              refine lv_aload_n hx hb dX9_next_241 rfl (lv_at hl 0 rfl) ?_
                              refine va_get (D := (dC, dI)) (ci := 9) (v := .ref (qT 1)) (C := RX9) (T := TX9) (N := 10) hx hb hts (fun w h => List.mem_cons_of_mem _ (List.mem_append_right _ (List.mem_append_left _ h))) hown hK hP 0 rfl rfl 0 (by decide) (hts (.fieldLink RX9 9 "SagMemory$Tape" "bytes" "[I") (wl_mem 2 rfl)) (fun _ h9 => h9) rfl dX9_next_242 ?_
                              refine lv_aload_n hx hb dX9_next_245 rfl (lv_at hl 0 rfl) ?_
                              refine va_get (D := (dC, dI)) (ci := 9) (v := .int (tz2784 1)) (C := RX9) (T := TX9) (N := 10) hx hb hts (fun w h => List.mem_cons_of_mem _ (List.mem_append_right _ (List.mem_append_left _ h))) hown hK hP 0 rfl rfl 5 (by decide) (hts (.fieldLink RX9 35 "SagMemory$Tape" "at" "I") (wl_mem 0 rfl)) (fun _ h9 => h9) rfl dX9_next_246 ?_
                              refine va_iald hx hb hK hP 1 0 rfl rfl (vp_in_iff.mpr ⟨by omega, by omega⟩) dX9_next_249 ?_
                              refine lv_topi (fun xz2813 exz2813 => ?_)
                              refine lv_iadd hx hb dX9_next_250 ?_
                              refine lv_topi (fun xz2814 exz2814 => ?_)
                              refine lv_bipush (v := 48) hx hb dX9_next_251 (by decide) ?_
                              refine lv_isub hx hb dX9_next_253 ?_
                              refine lv_topi (fun xz2815 exz2815 => ?_)
                              refine va_mmin hx hb (by rw [hml]; exact hl.1.symm) hown (hts (.methodLink RX9 180 Lib.Math.min.name) (wl_mem 12 rfl)) (hts (.static Lib.Math.min.name) (wl_mem 13 rfl)) (hts (.initialized "java/lang/Math") (wl_mem 14 rfl)) (hts (.code Lib.Math.min.name Lib.Math.min.code 2 (some .int)) (wl_mem 15 rfl)) (Nat.le_of_ble_eq_true rfl) (Nat.le_of_ble_eq_true rfl) (Nat.zero_le _) (Nat.zero_le _) dX9_next_254 ?_
                              refine lv_topi (fun xz2816 exz2816 => ?_)
                              refine va_put (D := (dC, dI)) (ci := 9) (v := .int xz2816) (ty := .int) (C := RX9) (T := TX9) (N := 10) hx hb hts (fun w h => List.mem_cons_of_mem _ (List.mem_append_right _ (List.mem_append_left _ h))) tyX9 tyX9_ok nmX9 hown hK hP hD hS 0 rfl rfl 8 (by decide) (hts (.fieldLink RX9 151 "SagMemory$Tape" "value" "I") (wl_mem 10 rfl)) (fun _ h9 => h9) rfl (by decide +kernel) rfl rfl (Nat.le_of_ble_eq_true rfl) dX9_next_257 (fun H locs hP hD hS => ?_)
                              have hP : va_P (dC, dI) vwCl (List.flatten [(wTape qT k readT (va_up vz2785 3 xz2816) tz2784 aT)] ++ List.flatten ([] : List va_W)) H := hP
                              have hD : va_D A (List.flatten [(wTape qT k readT (va_up vz2785 3 xz2816) tz2784 aT)] ++ List.flatten ([] : List va_W)) := hD
                              refine lv_aload_n hx hb dX9_next_260 rfl (lv_at hl 0 rfl) ?_
                              refine lv_dup hx hb dX9_next_261 rfl ?_
                              refine va_get (D := (dC, dI)) (ci := 9) (v := .int (tz2784 1)) (C := RX9) (T := TX9) (N := 10) hx hb hts (fun w h => List.mem_cons_of_mem _ (List.mem_append_right _ (List.mem_append_left _ h))) hown hK hP 0 rfl rfl 5 (by decide) (hts (.fieldLink RX9 35 "SagMemory$Tape" "at" "I") (wl_mem 0 rfl)) (fun _ h9 => h9) rfl dX9_next_262 ?_
                              refine lv_iconst (v := 1) hx hb dX9_next_265 (by decide) ?_
                              refine lv_iadd hx hb dX9_next_266 ?_
                              refine lv_topi (fun xz2817 exz2817 => ?_)
                              have fxz2817 : xz2817.toInt = (tz2784 1).toInt + (1 : Int) := by rw [exz2817]; exact fb_addI (x := (tz2784 1)) (y := (1 : Int32)) (by show -2147483648 ≤ (tz2784 1).toInt + (1 : Int); omega) (by show (tz2784 1).toInt + (1 : Int) < 2147483648; omega)
                              refine va_put (D := (dC, dI)) (ci := 9) (v := .int xz2817) (ty := .int) (C := RX9) (T := TX9) (N := 10) hx hb hts (fun w h => List.mem_cons_of_mem _ (List.mem_append_right _ (List.mem_append_left _ h))) tyX9 tyX9_ok nmX9 hown hK hP hD hS 0 rfl rfl 5 (by decide) (hts (.fieldLink RX9 35 "SagMemory$Tape" "at" "I") (wl_mem 0 rfl)) (fun _ h9 => h9) rfl (by decide +kernel) rfl rfl (Nat.le_of_ble_eq_true rfl) dX9_next_267 (fun H locs hP hD hS => ?_)
                              have hP : va_P (dC, dI) vwCl (List.flatten [(wTape qT k readT (va_up vz2785 3 xz2816) (va_up tz2784 1 xz2817) aT)] ++ List.flatten ([] : List va_W)) H := hP
                              have hD : va_D A (List.flatten [(wTape qT k readT (va_up vz2785 3 xz2816) (va_up tz2784 1 xz2817) aT)] ++ List.flatten ([] : List va_W)) := hD
                              refine lv_goto (tgt := 205) hx hb dX9_next_270 (by decide) ?_
                              exact ih205 H locs ls (va_up tz2784 1 xz2817) (va_up vz2785 3 xz2816) (by show (700 - xz2817.toInt).toNat < n9_205; omega) (rg_up htz2784 (by show 0 ≤ xz2817.toInt ∧ xz2817.toInt ≤ 700; omega)) (by show (vz2785 4).toInt = (vT 4).toInt; omega) hP hD hS (lv_sub hl [0] rfl)
                    exact lp205_kz2786 _ H locs ls (va_up (va_up tz1068 2 (tz1068 1)) 1 xz2626) (va_up (va_up vT 2 (2 : Int32)) 3 xz2750) (Nat.lt_succ_self _) (rg_up (rg_up htz1068 (by show 0 ≤ (tz1068 1).toInt ∧ (tz1068 1).toInt ≤ 700; omega)) (by show 0 ≤ xz2626.toInt ∧ xz2626.toInt ≤ 700; omega)) (by show (vT 4).toInt = (vT 4).toInt; omega) hP hD hS (lv_sub hl [0] rfl)
              · skip
                exact absurd cz2729 (by decide)
            · obtain rfl := er.symm
              have bz2818 := fb_rng xz2627
              have zz2819 : ¬ xz2627.toInt < (97 : Int) := fun h9 => cz2633 (zi_lt.mpr h9)
              have zz2820 : ¬ (122 : Int) < xz2627.toInt := fun h9 => cz2634 (zi_lt.mpr h9)
              refine lv_if_eq (tgt := 169) hx hb dX9_next_122 (by decide) (fun cz2821 => ?_) (fun cz2821 => ?_)
              · skip
                exact absurd cz2821 (by decide)
              · skip
                refine lv_aload_n hx hb dX9_next_125 rfl (lv_at hl 0 rfl) ?_
                refine lv_iconst (v := 1) hx hb dX9_next_126 (by decide) ?_
                refine va_put (D := (dC, dI)) (ci := 9) (v := .int 1) (ty := .int) (C := RX9) (T := TX9) (N := 10) hx hb hts (fun w h => List.mem_cons_of_mem _ (List.mem_append_right _ (List.mem_append_left _ h))) tyX9 tyX9_ok nmX9 hown hK hP hD hS 0 rfl rfl 6 (by decide) (hts (.fieldLink RX9 41 "SagMemory$Tape" "kind" "I") (wl_mem 4 rfl)) (fun _ h9 => h9) rfl (by decide +kernel) rfl rfl (Nat.le_of_ble_eq_true rfl) dX9_next_127 (fun H locs hP hD hS => ?_)
                have hP : va_P (dC, dI) vwCl (List.flatten [(wTape qT k readT (va_up vT 2 (1 : Int32)) (va_up (va_up tz1068 2 (tz1068 1)) 1 xz2626) aT)] ++ List.flatten ([] : List va_W)) H := hP
                have hD : va_D A (List.flatten [(wTape qT k readT (va_up vT 2 (1 : Int32)) (va_up (va_up tz1068 2 (tz1068 1)) 1 xz2626) aT)] ++ List.flatten ([] : List va_W)) := hD
                have lp130_kz2851 : ∀ (n9_130 : Nat) (H : Heap) (locs : List Loc) (ls : Array Slot) (tz2850 : Nat → Int32), (700 - (tz2850 1).toInt).toNat < n9_130 → Rg 0 700 tz2850 → (vT 4).toInt = (vT 4).toInt → va_P (dC, dI) vwCl (List.flatten [(wTape qT k readT (va_up vT 2 (1 : Int32)) tz2850 aT)] ++ List.flatten ([] : List va_W)) H → va_D A (List.flatten [(wTape qT k readT (va_up vT 2 (1 : Int32)) tz2850 aT)] ++ List.flatten ([] : List va_W)) → va_S A s.heap H locs → lv_has ls 1 [(0, .ref (qT 0))] → W p l e (headSpec wk_c_X9_next ({ frames := 1, cells := 0, slots := 0, locals := 80 })).room s m ([.ref (qT 0)] : List Value).toArray below meth c H locs 0 0 Q (F0 m 130 ls []) := by
                  intro n9_130
                  induction n9_130 with
                  | zero => intro H locs ls tz2850 hm; exact absurd hm (Nat.not_lt_zero _)
                  | succ n9_130 ih130 =>
                    intro H locs ls tz2850 hm130 htz2850 jz2852 hP hD hS hl
                    refine lv_aload_n hx hb dX9_next_130 rfl (lv_at hl 0 rfl) ?_
                    refine va_get (D := (dC, dI)) (ci := 9) (v := .int (tz2850 1)) (C := RX9) (T := TX9) (N := 10) hx hb hts (fun w h => List.mem_cons_of_mem _ (List.mem_append_right _ (List.mem_append_left _ h))) hown hK hP 0 rfl rfl 5 (by decide) (hts (.fieldLink RX9 35 "SagMemory$Tape" "at" "I") (wl_mem 0 rfl)) (fun _ h9 => h9) rfl dX9_next_131 ?_
                    have bz2853 := htz2850 1
                    refine lv_aload_n hx hb dX9_next_134 rfl (lv_at hl 0 rfl) ?_
                    refine va_get (D := (dC, dI)) (ci := 9) (v := .int (tz2850 0)) (C := RX9) (T := TX9) (N := 10) hx hb hts (fun w h => List.mem_cons_of_mem _ (List.mem_append_right _ (List.mem_append_left _ h))) hown hK hP 0 rfl rfl 2 (by decide) (hts (.fieldLink RX9 26 "SagMemory$Tape" "length" "I") (wl_mem 1 rfl)) (fun _ h9 => h9) rfl dX9_next_135 ?_
                    have bz2854 := htz2850 0
                    refine lv_icmp_ge (tgt := 273) hx hb dX9_next_138 (by decide) (fun cz2855 => ?_) (fun cz2855 => ?_)
                    · skip
                      have zz2856 : (tz2850 0).toInt ≤ (tz2850 1).toInt := zi_le.mp cz2855
                      rw [hQ]
                      exact W.vret hx hb hr (fun t ht hW => ⟨⟨(), rfl, trivial, (va_up vT 2 (1 : Int32)), tz2850, aT, htz2850, (by show (vT 4).toInt = (vT 4).toInt; omega), by rw [ht]; exact hP⟩, hS.F ht⟩) hS.2.2 dX9_next_273
                    · skip
                      have zz2857 : ¬ (tz2850 0).toInt ≤ (tz2850 1).toInt := fun h9 => cz2855 (zi_le.mpr h9)
                      refine lv_aload_n hx hb dX9_next_141 rfl (lv_at hl 0 rfl) ?_
                      refine va_get (D := (dC, dI)) (ci := 9) (v := .ref (qT 1)) (C := RX9) (T := TX9) (N := 10) hx hb hts (fun w h => List.mem_cons_of_mem _ (List.mem_append_right _ (List.mem_append_left _ h))) hown hK hP 0 rfl rfl 0 (by decide) (hts (.fieldLink RX9 9 "SagMemory$Tape" "bytes" "[I") (wl_mem 2 rfl)) (fun _ h9 => h9) rfl dX9_next_142 ?_
                      refine lv_aload_n hx hb dX9_next_145 rfl (lv_at hl 0 rfl) ?_
                      refine va_get (D := (dC, dI)) (ci := 9) (v := .int (tz2850 1)) (C := RX9) (T := TX9) (N := 10) hx hb hts (fun w h => List.mem_cons_of_mem _ (List.mem_append_right _ (List.mem_append_left _ h))) hown hK hP 0 rfl rfl 5 (by decide) (hts (.fieldLink RX9 35 "SagMemory$Tape" "at" "I") (wl_mem 0 rfl)) (fun _ h9 => h9) rfl dX9_next_146 ?_
                      refine va_iald hx hb hK hP 1 0 rfl rfl (vp_in_iff.mpr ⟨by omega, by omega⟩) dX9_next_149 ?_
                      refine lv_topi (fun xz2858 exz2858 => ?_)
                      have hPc : va_P (dC, dI) vwCl (List.flatten ([] : List va_W)) H := fun k q h => by simp at h
                      refine vp_callSi (va_Run.run (va_runS (As := [.int xz2858]) (rest := []) ⟨hx, hb, hml, hown, hts⟩ (c_X9_isLetter l dC dI k xz2858) (va_cwS 1 hts (gk_S (wl_mem 5 rfl) (wl_mem 6 rfl) (wl_mem 7 rfl) (fun w h => List.mem_cons_of_mem _ (List.mem_append_right _ (List.mem_append_right _ (List.mem_append_left _ h)))) wkg_c_X9_isLetter) rfl rfl rfl (by decide +kernel) ⟨Nat.le_of_ble_eq_true rfl, Nat.le_of_ble_eq_true rfl⟩) ⟨fun a U g mk q => by obtain ⟨q0, qP, qK⟩ := q; exact ⟨q0, qP, va_K.moved (u := U) (U := U.calling g mk a) (Vm.Alike.refl U.vm) qK⟩, fun U hU hW => ⟨rfl, by rw [hU]; exact hPc, va_K.moved hW.alike hK⟩⟩ rfl rfl hl.1 rfl (lv_room (Nat.le_of_ble_eq_true rfl)) dX9_next_150 ⟨Nat.le_of_ble_eq_true rfl, Nat.le_of_ble_eq_true rfl⟩)) (fun rz2860 gz2859 => ?_)
                      clear hPc
                      rcases gz2859 with ⟨er, cz2861⟩ | ⟨er, cz2862, cz2863⟩ | ⟨er, cz2864, cz2865⟩
                      · obtain rfl := er.symm
                        have bz2866 := fb_rng xz2858
                        have zz2867 : xz2858.toInt < (97 : Int) := zi_lt.mp cz2861
                        refine lv_if_eq (tgt := 273) hx hb dX9_next_153 (by decide) (fun cz2868 => ?_) (fun cz2868 => ?_)
                        · skip
                          rw [hQ]
                          exact W.vret hx hb hr (fun t ht hW => ⟨⟨(), rfl, trivial, (va_up vT 2 (1 : Int32)), tz2850, aT, htz2850, (by show (vT 4).toInt = (vT 4).toInt; omega), by rw [ht]; exact hP⟩, hS.F ht⟩) hS.2.2 dX9_next_273
                        · skip
                          exact absurd cz2868 (by decide)
                      · obtain rfl := er.symm
                        have bz2869 := fb_rng xz2858
                        have zz2870 : ¬ xz2858.toInt < (97 : Int) := fun h9 => cz2862 (zi_lt.mpr h9)
                        have zz2871 : (122 : Int) < xz2858.toInt := zi_lt.mp cz2863
                        refine lv_if_eq (tgt := 273) hx hb dX9_next_153 (by decide) (fun cz2872 => ?_) (fun cz2872 => ?_)
                        · skip
                          rw [hQ]
                          exact W.vret hx hb hr (fun t ht hW => ⟨⟨(), rfl, trivial, (va_up vT 2 (1 : Int32)), tz2850, aT, htz2850, (by show (vT 4).toInt = (vT 4).toInt; omega), by rw [ht]; exact hP⟩, hS.F ht⟩) hS.2.2 dX9_next_273
                        · skip
                          exact absurd cz2872 (by decide)
                      · obtain rfl := er.symm
                        have bz2873 := fb_rng xz2858
                        have zz2874 : ¬ xz2858.toInt < (97 : Int) := fun h9 => cz2864 (zi_lt.mpr h9)
                        have zz2875 : ¬ (122 : Int) < xz2858.toInt := fun h9 => cz2865 (zi_lt.mpr h9)
                        refine lv_if_eq (tgt := 273) hx hb dX9_next_153 (by decide) (fun cz2876 => ?_) (fun cz2876 => ?_)
                        · skip
                          exact absurd cz2876 (by decide)
                        · skip
                          refine lv_aload_n hx hb dX9_next_156 rfl (lv_at hl 0 rfl) ?_
                          refine lv_dup hx hb dX9_next_157 rfl ?_
                          refine va_get (D := (dC, dI)) (ci := 9) (v := .int (tz2850 1)) (C := RX9) (T := TX9) (N := 10) hx hb hts (fun w h => List.mem_cons_of_mem _ (List.mem_append_right _ (List.mem_append_left _ h))) hown hK hP 0 rfl rfl 5 (by decide) (hts (.fieldLink RX9 35 "SagMemory$Tape" "at" "I") (wl_mem 0 rfl)) (fun _ h9 => h9) rfl dX9_next_158 ?_
                          refine lv_iconst (v := 1) hx hb dX9_next_161 (by decide) ?_
                          refine lv_iadd hx hb dX9_next_162 ?_
                          refine lv_topi (fun xz2877 exz2877 => ?_)
                          have fxz2877 : xz2877.toInt = (tz2850 1).toInt + (1 : Int) := by rw [exz2877]; exact fb_addI (x := (tz2850 1)) (y := (1 : Int32)) (by show -2147483648 ≤ (tz2850 1).toInt + (1 : Int); omega) (by show (tz2850 1).toInt + (1 : Int) < 2147483648; omega)
                          refine va_put (D := (dC, dI)) (ci := 9) (v := .int xz2877) (ty := .int) (C := RX9) (T := TX9) (N := 10) hx hb hts (fun w h => List.mem_cons_of_mem _ (List.mem_append_right _ (List.mem_append_left _ h))) tyX9 tyX9_ok nmX9 hown hK hP hD hS 0 rfl rfl 5 (by decide) (hts (.fieldLink RX9 35 "SagMemory$Tape" "at" "I") (wl_mem 0 rfl)) (fun _ h9 => h9) rfl (by decide +kernel) rfl rfl (Nat.le_of_ble_eq_true rfl) dX9_next_163 (fun H locs hP hD hS => ?_)
                          have hP : va_P (dC, dI) vwCl (List.flatten [(wTape qT k readT (va_up vT 2 (1 : Int32)) (va_up tz2850 1 xz2877) aT)] ++ List.flatten ([] : List va_W)) H := hP
                          have hD : va_D A (List.flatten [(wTape qT k readT (va_up vT 2 (1 : Int32)) (va_up tz2850 1 xz2877) aT)] ++ List.flatten ([] : List va_W)) := hD
                          refine lv_goto (tgt := 130) hx hb dX9_next_166 (by decide) ?_
                          exact ih130 H locs ls (va_up tz2850 1 xz2877) (by show (700 - xz2877.toInt).toNat < n9_130; omega) (rg_up htz2850 (by show 0 ≤ xz2877.toInt ∧ xz2877.toInt ≤ 700; omega)) (by show (vT 4).toInt = (vT 4).toInt; omega) hP hD hS (lv_sub hl [0] rfl)
                exact lp130_kz2851 _ H locs ls (va_up (va_up tz1068 2 (tz1068 1)) 1 xz2626) (Nat.lt_succ_self _) (rg_up (rg_up htz1068 (by show 0 ≤ (tz1068 1).toInt ∧ (tz1068 1).toInt ≤ 700; omega)) (by show 0 ≤ xz2626.toInt ∧ xz2626.toInt ≤ 700; omega)) (by show (vT 4).toInt = (vT 4).toInt; omega) hP hD hS (lv_sub hl [0] rfl)
          · skip
            have zz2878 : xz2116.toInt = (59 : Int) := zi_eq.mp cz2624
            refine lv_iconst (v := 3) hx hb dX9_next_92 (by decide) ?_
            refine lv_goto (tgt := 97) hx hb dX9_next_93 (by decide) ?_
            refine va_put (D := (dC, dI)) (ci := 9) (v := .int 3) (ty := .int) (C := RX9) (T := TX9) (N := 10) hx hb hts (fun w h => List.mem_cons_of_mem _ (List.mem_append_right _ (List.mem_append_left _ h))) tyX9 tyX9_ok nmX9 hown hK hP hD hS 0 rfl rfl 6 (by decide) (hts (.fieldLink RX9 41 "SagMemory$Tape" "kind" "I") (wl_mem 4 rfl)) (fun _ h9 => h9) rfl (by decide +kernel) rfl rfl (Nat.le_of_ble_eq_true rfl) dX9_next_97 (fun H locs hP hD hS => ?_)
            have hP : va_P (dC, dI) vwCl (List.flatten [(wTape qT k readT (va_up vT 2 (3 : Int32)) (va_up tz1068 2 (tz1068 1)) aT)] ++ List.flatten ([] : List va_W)) H := hP
            have hD : va_D A (List.flatten [(wTape qT k readT (va_up vT 2 (3 : Int32)) (va_up tz1068 2 (tz1068 1)) aT)] ++ List.flatten ([] : List va_W)) := hD
            refine lv_aload_n hx hb dX9_next_100 rfl (lv_at hl 0 rfl) ?_
            refine lv_dup hx hb dX9_next_101 rfl ?_
            refine va_get (D := (dC, dI)) (ci := 9) (v := .int (tz1068 1)) (C := RX9) (T := TX9) (N := 10) hx hb hts (fun w h => List.mem_cons_of_mem _ (List.mem_append_right _ (List.mem_append_left _ h))) hown hK hP 0 rfl rfl 5 (by decide) (hts (.fieldLink RX9 35 "SagMemory$Tape" "at" "I") (wl_mem 0 rfl)) (fun _ h9 => h9) rfl dX9_next_102 ?_
            refine lv_iconst (v := 1) hx hb dX9_next_105 (by decide) ?_
            refine lv_iadd hx hb dX9_next_106 ?_
            refine lv_topi (fun xz2879 exz2879 => ?_)
            have fxz2879 : xz2879.toInt = (tz1068 1).toInt + (1 : Int) := by rw [exz2879]; exact fb_addI (x := (tz1068 1)) (y := (1 : Int32)) (by show -2147483648 ≤ (tz1068 1).toInt + (1 : Int); omega) (by show (tz1068 1).toInt + (1 : Int) < 2147483648; omega)
            refine va_put (D := (dC, dI)) (ci := 9) (v := .int xz2879) (ty := .int) (C := RX9) (T := TX9) (N := 10) hx hb hts (fun w h => List.mem_cons_of_mem _ (List.mem_append_right _ (List.mem_append_left _ h))) tyX9 tyX9_ok nmX9 hown hK hP hD hS 0 rfl rfl 5 (by decide) (hts (.fieldLink RX9 35 "SagMemory$Tape" "at" "I") (wl_mem 0 rfl)) (fun _ h9 => h9) rfl (by decide +kernel) rfl rfl (Nat.le_of_ble_eq_true rfl) dX9_next_107 (fun H locs hP hD hS => ?_)
            have hP : va_P (dC, dI) vwCl (List.flatten [(wTape qT k readT (va_up vT 2 (3 : Int32)) (va_up (va_up tz1068 2 (tz1068 1)) 1 xz2879) aT)] ++ List.flatten ([] : List va_W)) H := hP
            have hD : va_D A (List.flatten [(wTape qT k readT (va_up vT 2 (3 : Int32)) (va_up (va_up tz1068 2 (tz1068 1)) 1 xz2879) aT)] ++ List.flatten ([] : List va_W)) := hD
            refine lv_aload_n hx hb dX9_next_110 rfl (lv_at hl 0 rfl) ?_
            refine va_get (D := (dC, dI)) (ci := 9) (v := .ref (qT 1)) (C := RX9) (T := TX9) (N := 10) hx hb hts (fun w h => List.mem_cons_of_mem _ (List.mem_append_right _ (List.mem_append_left _ h))) hown hK hP 0 rfl rfl 0 (by decide) (hts (.fieldLink RX9 9 "SagMemory$Tape" "bytes" "[I") (wl_mem 2 rfl)) (fun _ h9 => h9) rfl dX9_next_111 ?_
            refine lv_aload_n hx hb dX9_next_114 rfl (lv_at hl 0 rfl) ?_
            refine va_get (D := (dC, dI)) (ci := 9) (v := .int (tz1068 1)) (C := RX9) (T := TX9) (N := 10) hx hb hts (fun w h => List.mem_cons_of_mem _ (List.mem_append_right _ (List.mem_append_left _ h))) hown hK hP 0 rfl rfl 7 (by decide) (hts (.fieldLink RX9 161 "SagMemory$Tape" "start" "I") (wl_mem 3 rfl)) (fun _ h9 => h9) rfl dX9_next_115 ?_
            refine va_iald hx hb hK hP 1 0 rfl rfl (vp_in_iff.mpr ⟨by omega, by omega⟩) dX9_next_118 ?_
            refine lv_topi (fun xz2880 exz2880 => ?_)
            have hPc : va_P (dC, dI) vwCl (List.flatten ([] : List va_W)) H := fun k q h => by simp at h
            refine vp_callSi (va_Run.run (va_runS (As := [.int xz2880]) (rest := []) ⟨hx, hb, hml, hown, hts⟩ (c_X9_isLetter l dC dI k xz2880) (va_cwS 1 hts (gk_S (wl_mem 5 rfl) (wl_mem 6 rfl) (wl_mem 7 rfl) (fun w h => List.mem_cons_of_mem _ (List.mem_append_right _ (List.mem_append_right _ (List.mem_append_left _ h)))) wkg_c_X9_isLetter) rfl rfl rfl (by decide +kernel) ⟨Nat.le_of_ble_eq_true rfl, Nat.le_of_ble_eq_true rfl⟩) ⟨fun a U g mk q => by obtain ⟨q0, qP, qK⟩ := q; exact ⟨q0, qP, va_K.moved (u := U) (U := U.calling g mk a) (Vm.Alike.refl U.vm) qK⟩, fun U hU hW => ⟨rfl, by rw [hU]; exact hPc, va_K.moved hW.alike hK⟩⟩ rfl rfl hl.1 rfl (lv_room (Nat.le_of_ble_eq_true rfl)) dX9_next_119 ⟨Nat.le_of_ble_eq_true rfl, Nat.le_of_ble_eq_true rfl⟩)) (fun rz2882 gz2881 => ?_)
            clear hPc
            rcases gz2881 with ⟨er, cz2883⟩ | ⟨er, cz2884, cz2885⟩ | ⟨er, cz2886, cz2887⟩
            · obtain rfl := er.symm
              have bz2888 := fb_rng xz2880
              have zz2889 : xz2880.toInt < (97 : Int) := zi_lt.mp cz2883
              refine lv_if_eq (tgt := 169) hx hb dX9_next_122 (by decide) (fun cz2890 => ?_) (fun cz2890 => ?_)
              · skip
                refine lv_aload_n hx hb dX9_next_169 rfl (lv_at hl 0 rfl) ?_
                refine va_get (D := (dC, dI)) (ci := 9) (v := .ref (qT 1)) (C := RX9) (T := TX9) (N := 10) hx hb hts (fun w h => List.mem_cons_of_mem _ (List.mem_append_right _ (List.mem_append_left _ h))) hown hK hP 0 rfl rfl 0 (by decide) (hts (.fieldLink RX9 9 "SagMemory$Tape" "bytes" "[I") (wl_mem 2 rfl)) (fun _ h9 => h9) rfl dX9_next_170 ?_
                refine lv_aload_n hx hb dX9_next_173 rfl (lv_at hl 0 rfl) ?_
                refine va_get (D := (dC, dI)) (ci := 9) (v := .int (tz1068 1)) (C := RX9) (T := TX9) (N := 10) hx hb hts (fun w h => List.mem_cons_of_mem _ (List.mem_append_right _ (List.mem_append_left _ h))) hown hK hP 0 rfl rfl 7 (by decide) (hts (.fieldLink RX9 161 "SagMemory$Tape" "start" "I") (wl_mem 3 rfl)) (fun _ h9 => h9) rfl dX9_next_174 ?_
                refine va_iald hx hb hK hP 1 0 rfl rfl (vp_in_iff.mpr ⟨by omega, by omega⟩) dX9_next_177 ?_
                refine lv_topi (fun xz2891 exz2891 => ?_)
                have hPc : va_P (dC, dI) vwCl (List.flatten ([] : List va_W)) H := fun k q h => by simp at h
                refine vp_callSi (va_Run.run (va_runS (As := [.int xz2891]) (rest := []) ⟨hx, hb, hml, hown, hts⟩ (c_X9_isDigit l dC dI k xz2891) (va_cwS 1 hts (gk_S (wl_mem 8 rfl) (wl_mem 9 rfl) (wl_mem 7 rfl) (fun w h => List.mem_cons_of_mem _ (List.mem_append_right _ (List.mem_append_right _ (List.mem_append_right _ (List.mem_append_left _ h))))) wkg_c_X9_isDigit) rfl rfl rfl (by decide +kernel) ⟨Nat.le_of_ble_eq_true rfl, Nat.le_of_ble_eq_true rfl⟩) ⟨fun a U g mk q => by obtain ⟨q0, qP, qK⟩ := q; exact ⟨q0, qP, va_K.moved (u := U) (U := U.calling g mk a) (Vm.Alike.refl U.vm) qK⟩, fun U hU hW => ⟨rfl, by rw [hU]; exact hPc, va_K.moved hW.alike hK⟩⟩ rfl rfl hl.1 rfl (lv_room (Nat.le_of_ble_eq_true rfl)) dX9_next_178 ⟨Nat.le_of_ble_eq_true rfl, Nat.le_of_ble_eq_true rfl⟩)) (fun rz2893 gz2892 => ?_)
                clear hPc
                rcases gz2892 with ⟨er, cz2894⟩ | ⟨er, cz2895, cz2896⟩ | ⟨er, cz2897, cz2898⟩
                · obtain rfl := er.symm
                  have bz2899 := fb_rng xz2891
                  have zz2900 : xz2891.toInt < (48 : Int) := zi_lt.mp cz2894
                  refine lv_if_eq (tgt := 273) hx hb dX9_next_181 (by decide) (fun cz2901 => ?_) (fun cz2901 => ?_)
                  · skip
                    rw [hQ]
                    exact W.vret hx hb hr (fun t ht hW => ⟨⟨(), rfl, trivial, (va_up vT 2 (3 : Int32)), (va_up (va_up tz1068 2 (tz1068 1)) 1 xz2879), aT, (rg_up (rg_up htz1068 (by show 0 ≤ (tz1068 1).toInt ∧ (tz1068 1).toInt ≤ 700; omega)) (by show 0 ≤ xz2879.toInt ∧ xz2879.toInt ≤ 700; omega)), (by show (vT 4).toInt = (vT 4).toInt; omega), by rw [ht]; exact hP⟩, hS.F ht⟩) hS.2.2 dX9_next_273
                  · skip
                    exact absurd cz2901 (by decide)
                · obtain rfl := er.symm
                  have bz2902 := fb_rng xz2891
                  have zz2903 : ¬ xz2891.toInt < (48 : Int) := fun h9 => cz2895 (zi_lt.mpr h9)
                  have zz2904 : (57 : Int) < xz2891.toInt := zi_lt.mp cz2896
                  refine lv_if_eq (tgt := 273) hx hb dX9_next_181 (by decide) (fun cz2905 => ?_) (fun cz2905 => ?_)
                  · skip
                    rw [hQ]
                    exact W.vret hx hb hr (fun t ht hW => ⟨⟨(), rfl, trivial, (va_up vT 2 (3 : Int32)), (va_up (va_up tz1068 2 (tz1068 1)) 1 xz2879), aT, (rg_up (rg_up htz1068 (by show 0 ≤ (tz1068 1).toInt ∧ (tz1068 1).toInt ≤ 700; omega)) (by show 0 ≤ xz2879.toInt ∧ xz2879.toInt ≤ 700; omega)), (by show (vT 4).toInt = (vT 4).toInt; omega), by rw [ht]; exact hP⟩, hS.F ht⟩) hS.2.2 dX9_next_273
                  · skip
                    exact absurd cz2905 (by decide)
                · obtain rfl := er.symm
                  have bz2906 := fb_rng xz2891
                  have zz2907 : ¬ xz2891.toInt < (48 : Int) := fun h9 => cz2897 (zi_lt.mpr h9)
                  have zz2908 : ¬ (57 : Int) < xz2891.toInt := fun h9 => cz2898 (zi_lt.mpr h9)
                  refine lv_if_eq (tgt := 273) hx hb dX9_next_181 (by decide) (fun cz2909 => ?_) (fun cz2909 => ?_)
                  · skip
                    exact absurd cz2909 (by decide)
                  · skip
                    refine lv_aload_n hx hb dX9_next_184 rfl (lv_at hl 0 rfl) ?_
                    refine lv_iconst (v := 2) hx hb dX9_next_185 (by decide) ?_
                    refine va_put (D := (dC, dI)) (ci := 9) (v := .int 2) (ty := .int) (C := RX9) (T := TX9) (N := 10) hx hb hts (fun w h => List.mem_cons_of_mem _ (List.mem_append_right _ (List.mem_append_left _ h))) tyX9 tyX9_ok nmX9 hown hK hP hD hS 0 rfl rfl 6 (by decide) (hts (.fieldLink RX9 41 "SagMemory$Tape" "kind" "I") (wl_mem 4 rfl)) (fun _ h9 => h9) rfl (by decide +kernel) rfl rfl (Nat.le_of_ble_eq_true rfl) dX9_next_186 (fun H locs hP hD hS => ?_)
                    have hP : va_P (dC, dI) vwCl (List.flatten [(wTape qT k readT (va_up vT 2 (2 : Int32)) (va_up (va_up tz1068 2 (tz1068 1)) 1 xz2879) aT)] ++ List.flatten ([] : List va_W)) H := hP
                    have hD : va_D A (List.flatten [(wTape qT k readT (va_up vT 2 (2 : Int32)) (va_up (va_up tz1068 2 (tz1068 1)) 1 xz2879) aT)] ++ List.flatten ([] : List va_W)) := hD
                    refine lv_aload_n hx hb dX9_next_189 rfl (lv_at hl 0 rfl) ?_
                    refine lv_aload_n hx hb dX9_next_190 rfl (lv_at hl 0 rfl) ?_
                    refine va_get (D := (dC, dI)) (ci := 9) (v := .ref (qT 1)) (C := RX9) (T := TX9) (N := 10) hx hb hts (fun w h => List.mem_cons_of_mem _ (List.mem_append_right _ (List.mem_append_left _ h))) hown hK hP 0 rfl rfl 0 (by decide) (hts (.fieldLink RX9 9 "SagMemory$Tape" "bytes" "[I") (wl_mem 2 rfl)) (fun _ h9 => h9) rfl dX9_next_191 ?_
                    refine lv_aload_n hx hb dX9_next_194 rfl (lv_at hl 0 rfl) ?_
                    refine va_get (D := (dC, dI)) (ci := 9) (v := .int (tz1068 1)) (C := RX9) (T := TX9) (N := 10) hx hb hts (fun w h => List.mem_cons_of_mem _ (List.mem_append_right _ (List.mem_append_left _ h))) hown hK hP 0 rfl rfl 7 (by decide) (hts (.fieldLink RX9 161 "SagMemory$Tape" "start" "I") (wl_mem 3 rfl)) (fun _ h9 => h9) rfl dX9_next_195 ?_
                    refine va_iald hx hb hK hP 1 0 rfl rfl (vp_in_iff.mpr ⟨by omega, by omega⟩) dX9_next_198 ?_
                    refine lv_topi (fun xz2910 exz2910 => ?_)
                    refine lv_bipush (v := 48) hx hb dX9_next_199 (by decide) ?_
                    refine lv_isub hx hb dX9_next_201 ?_
                    refine lv_topi (fun xz2911 exz2911 => ?_)
                    refine va_put (D := (dC, dI)) (ci := 9) (v := .int xz2911) (ty := .int) (C := RX9) (T := TX9) (N := 10) hx hb hts (fun w h => List.mem_cons_of_mem _ (List.mem_append_right _ (List.mem_append_left _ h))) tyX9 tyX9_ok nmX9 hown hK hP hD hS 0 rfl rfl 8 (by decide) (hts (.fieldLink RX9 151 "SagMemory$Tape" "value" "I") (wl_mem 10 rfl)) (fun _ h9 => h9) rfl (by decide +kernel) rfl rfl (Nat.le_of_ble_eq_true rfl) dX9_next_202 (fun H locs hP hD hS => ?_)
                    have hP : va_P (dC, dI) vwCl (List.flatten [(wTape qT k readT (va_up (va_up vT 2 (2 : Int32)) 3 xz2911) (va_up (va_up tz1068 2 (tz1068 1)) 1 xz2879) aT)] ++ List.flatten ([] : List va_W)) H := hP
                    have hD : va_D A (List.flatten [(wTape qT k readT (va_up (va_up vT 2 (2 : Int32)) 3 xz2911) (va_up (va_up tz1068 2 (tz1068 1)) 1 xz2879) aT)] ++ List.flatten ([] : List va_W)) := hD
                    have lp205_kz2947 : ∀ (n9_205 : Nat) (H : Heap) (locs : List Loc) (ls : Array Slot) (tz2945 : Nat → Int32) (vz2946 : Nat → Int32), (700 - (tz2945 1).toInt).toNat < n9_205 → Rg 0 700 tz2945 → (vz2946 4).toInt = (vT 4).toInt → va_P (dC, dI) vwCl (List.flatten [(wTape qT k readT vz2946 tz2945 aT)] ++ List.flatten ([] : List va_W)) H → va_D A (List.flatten [(wTape qT k readT vz2946 tz2945 aT)] ++ List.flatten ([] : List va_W)) → va_S A s.heap H locs → lv_has ls 1 [(0, .ref (qT 0))] → W p l e (headSpec wk_c_X9_next ({ frames := 1, cells := 0, slots := 0, locals := 80 })).room s m ([.ref (qT 0)] : List Value).toArray below meth c H locs 0 0 Q (F0 m 205 ls []) := by
                      intro n9_205
                      induction n9_205 with
                      | zero => intro H locs ls tz2945 vz2946 hm; exact absurd hm (Nat.not_lt_zero _)
                      | succ n9_205 ih205 =>
                        intro H locs ls tz2945 vz2946 hm205 htz2945 jz2948 hP hD hS hl
                        refine lv_aload_n hx hb dX9_next_205 rfl (lv_at hl 0 rfl) ?_
                        refine va_get (D := (dC, dI)) (ci := 9) (v := .int (tz2945 1)) (C := RX9) (T := TX9) (N := 10) hx hb hts (fun w h => List.mem_cons_of_mem _ (List.mem_append_right _ (List.mem_append_left _ h))) hown hK hP 0 rfl rfl 5 (by decide) (hts (.fieldLink RX9 35 "SagMemory$Tape" "at" "I") (wl_mem 0 rfl)) (fun _ h9 => h9) rfl dX9_next_206 ?_
                        have bz2949 := htz2945 1
                        refine lv_aload_n hx hb dX9_next_209 rfl (lv_at hl 0 rfl) ?_
                        refine va_get (D := (dC, dI)) (ci := 9) (v := .int (tz2945 0)) (C := RX9) (T := TX9) (N := 10) hx hb hts (fun w h => List.mem_cons_of_mem _ (List.mem_append_right _ (List.mem_append_left _ h))) hown hK hP 0 rfl rfl 2 (by decide) (hts (.fieldLink RX9 26 "SagMemory$Tape" "length" "I") (wl_mem 1 rfl)) (fun _ h9 => h9) rfl dX9_next_210 ?_
                        have bz2950 := htz2945 0
                        refine lv_icmp_ge (tgt := 273) hx hb dX9_next_213 (by decide) (fun cz2951 => ?_) (fun cz2951 => ?_)
                        · skip
                          have zz2952 : (tz2945 0).toInt ≤ (tz2945 1).toInt := zi_le.mp cz2951
                          rw [hQ]
                          exact W.vret hx hb hr (fun t ht hW => ⟨⟨(), rfl, trivial, vz2946, tz2945, aT, htz2945, (by show (vz2946 4).toInt = (vT 4).toInt; omega), by rw [ht]; exact hP⟩, hS.F ht⟩) hS.2.2 dX9_next_273
                        · skip
                          have zz2953 : ¬ (tz2945 0).toInt ≤ (tz2945 1).toInt := fun h9 => cz2951 (zi_le.mpr h9)
                          refine lv_aload_n hx hb dX9_next_216 rfl (lv_at hl 0 rfl) ?_
                          refine va_get (D := (dC, dI)) (ci := 9) (v := .ref (qT 1)) (C := RX9) (T := TX9) (N := 10) hx hb hts (fun w h => List.mem_cons_of_mem _ (List.mem_append_right _ (List.mem_append_left _ h))) hown hK hP 0 rfl rfl 0 (by decide) (hts (.fieldLink RX9 9 "SagMemory$Tape" "bytes" "[I") (wl_mem 2 rfl)) (fun _ h9 => h9) rfl dX9_next_217 ?_
                          refine lv_aload_n hx hb dX9_next_220 rfl (lv_at hl 0 rfl) ?_
                          refine va_get (D := (dC, dI)) (ci := 9) (v := .int (tz2945 1)) (C := RX9) (T := TX9) (N := 10) hx hb hts (fun w h => List.mem_cons_of_mem _ (List.mem_append_right _ (List.mem_append_left _ h))) hown hK hP 0 rfl rfl 5 (by decide) (hts (.fieldLink RX9 35 "SagMemory$Tape" "at" "I") (wl_mem 0 rfl)) (fun _ h9 => h9) rfl dX9_next_221 ?_
                          refine va_iald hx hb hK hP 1 0 rfl rfl (vp_in_iff.mpr ⟨by omega, by omega⟩) dX9_next_224 ?_
                          refine lv_topi (fun xz2954 exz2954 => ?_)
                          have hPc : va_P (dC, dI) vwCl (List.flatten ([] : List va_W)) H := fun k q h => by simp at h
                          refine vp_callSi (va_Run.run (va_runS (As := [.int xz2954]) (rest := []) ⟨hx, hb, hml, hown, hts⟩ (c_X9_isDigit l dC dI k xz2954) (va_cwS 1 hts (gk_S (wl_mem 8 rfl) (wl_mem 9 rfl) (wl_mem 7 rfl) (fun w h => List.mem_cons_of_mem _ (List.mem_append_right _ (List.mem_append_right _ (List.mem_append_right _ (List.mem_append_left _ h))))) wkg_c_X9_isDigit) rfl rfl rfl (by decide +kernel) ⟨Nat.le_of_ble_eq_true rfl, Nat.le_of_ble_eq_true rfl⟩) ⟨fun a U g mk q => by obtain ⟨q0, qP, qK⟩ := q; exact ⟨q0, qP, va_K.moved (u := U) (U := U.calling g mk a) (Vm.Alike.refl U.vm) qK⟩, fun U hU hW => ⟨rfl, by rw [hU]; exact hPc, va_K.moved hW.alike hK⟩⟩ rfl rfl hl.1 rfl (lv_room (Nat.le_of_ble_eq_true rfl)) dX9_next_225 ⟨Nat.le_of_ble_eq_true rfl, Nat.le_of_ble_eq_true rfl⟩)) (fun rz2956 gz2955 => ?_)
                          clear hPc
                          rcases gz2955 with ⟨er, cz2957⟩ | ⟨er, cz2958, cz2959⟩ | ⟨er, cz2960, cz2961⟩
                          · obtain rfl := er.symm
                            have bz2962 := fb_rng xz2954
                            have zz2963 : xz2954.toInt < (48 : Int) := zi_lt.mp cz2957
                            refine lv_if_eq (tgt := 273) hx hb dX9_next_228 (by decide) (fun cz2964 => ?_) (fun cz2964 => ?_)
                            · skip
                              rw [hQ]
                              exact W.vret hx hb hr (fun t ht hW => ⟨⟨(), rfl, trivial, vz2946, tz2945, aT, htz2945, (by show (vz2946 4).toInt = (vT 4).toInt; omega), by rw [ht]; exact hP⟩, hS.F ht⟩) hS.2.2 dX9_next_273
                            · skip
                              exact absurd cz2964 (by decide)
                          · obtain rfl := er.symm
                            have bz2965 := fb_rng xz2954
                            have zz2966 : ¬ xz2954.toInt < (48 : Int) := fun h9 => cz2958 (zi_lt.mpr h9)
                            have zz2967 : (57 : Int) < xz2954.toInt := zi_lt.mp cz2959
                            refine lv_if_eq (tgt := 273) hx hb dX9_next_228 (by decide) (fun cz2968 => ?_) (fun cz2968 => ?_)
                            · skip
                              rw [hQ]
                              exact W.vret hx hb hr (fun t ht hW => ⟨⟨(), rfl, trivial, vz2946, tz2945, aT, htz2945, (by show (vz2946 4).toInt = (vT 4).toInt; omega), by rw [ht]; exact hP⟩, hS.F ht⟩) hS.2.2 dX9_next_273
                            · skip
                              exact absurd cz2968 (by decide)
                          · obtain rfl := er.symm
                            have bz2969 := fb_rng xz2954
                            have zz2970 : ¬ xz2954.toInt < (48 : Int) := fun h9 => cz2960 (zi_lt.mpr h9)
                            have zz2971 : ¬ (57 : Int) < xz2954.toInt := fun h9 => cz2961 (zi_lt.mpr h9)
                            refine lv_if_eq (tgt := 273) hx hb dX9_next_228 (by decide) (fun cz2972 => ?_) (fun cz2972 => ?_)
                            · skip
                              exact absurd cz2972 (by decide)
                            · skip
                              refine lv_aload_n hx hb dX9_next_231 rfl (lv_at hl 0 rfl) ?_
                              refine lv_ldc (v := 100000) hx hb hown (hts (.constant RX9 179 (100000)) (wl_mem 11 rfl)) dX9_next_232 ?_
                              refine lv_aload_n hx hb dX9_next_234 rfl (lv_at hl 0 rfl) ?_
                              refine va_get (D := (dC, dI)) (ci := 9) (v := .int (vz2946 3)) (C := RX9) (T := TX9) (N := 10) hx hb hts (fun w h => List.mem_cons_of_mem _ (List.mem_append_right _ (List.mem_append_left _ h))) hown hK hP 0 rfl rfl 8 (by decide) (hts (.fieldLink RX9 151 "SagMemory$Tape" "value" "I") (wl_mem 10 rfl)) (fun _ h9 => h9) rfl dX9_next_235 ?_
                              refine lv_bipush (v := 10) hx hb dX9_next_238 (by decide) ?_
                              refine lv_imul hx hb dX9_next_240 ?_
                              refine lv_topi (fun xz2973 exz2973 => ?_)
                              refine lv_aload_n hx hb dX9_next_241 rfl (lv_at hl 0 rfl) ?_
                              refine va_get (D := (dC, dI)) (ci := 9) (v := .ref (qT 1)) (C := RX9) (T := TX9) (N := 10) hx hb hts (fun w h => List.mem_cons_of_mem _ (List.mem_append_right _ (List.mem_append_left _ h))) hown hK hP 0 rfl rfl 0 (by decide) (hts (.fieldLink RX9 9 "SagMemory$Tape" "bytes" "[I") (wl_mem 2 rfl)) (fun _ h9 => h9) rfl dX9_next_242 ?_
                              refine lv_aload_n hx hb dX9_next_245 rfl (lv_at hl 0 rfl) ?_
                              refine va_get (D := (dC, dI)) (ci := 9) (v := .int (tz2945 1)) (C := RX9) (T := TX9) (N := 10) hx hb hts (fun w h => List.mem_cons_of_mem _ (List.mem_append_right _ (List.mem_append_left _ h))) hown hK hP 0 rfl rfl 5 (by decide) (hts (.fieldLink RX9 35 "SagMemory$Tape" "at" "I") (wl_mem 0 rfl)) (fun _ h9 => h9) rfl dX9_next_246 ?_
                              refine va_iald hx hb hK hP 1 0 rfl rfl (vp_in_iff.mpr ⟨by omega, by omega⟩) dX9_next_249 ?_
                              refine lv_topi (fun xz2974 exz2974 => ?_)
                              refine lv_iadd hx hb dX9_next_250 ?_
                              refine lv_topi (fun xz2975 exz2975 => ?_)
                              refine lv_bipush (v := 48) hx hb dX9_next_251 (by decide) ?_
                              refine lv_isub hx hb dX9_next_253 ?_
                              refine lv_topi (fun xz2976 exz2976 => ?_)
                              refine va_mmin hx hb (by rw [hml]; exact hl.1.symm) hown (hts (.methodLink RX9 180 Lib.Math.min.name) (wl_mem 12 rfl)) (hts (.static Lib.Math.min.name) (wl_mem 13 rfl)) (hts (.initialized "java/lang/Math") (wl_mem 14 rfl)) (hts (.code Lib.Math.min.name Lib.Math.min.code 2 (some .int)) (wl_mem 15 rfl)) (Nat.le_of_ble_eq_true rfl) (Nat.le_of_ble_eq_true rfl) (Nat.zero_le _) (Nat.zero_le _) dX9_next_254 ?_
                              refine lv_topi (fun xz2977 exz2977 => ?_)
                              refine va_put (D := (dC, dI)) (ci := 9) (v := .int xz2977) (ty := .int) (C := RX9) (T := TX9) (N := 10) hx hb hts (fun w h => List.mem_cons_of_mem _ (List.mem_append_right _ (List.mem_append_left _ h))) tyX9 tyX9_ok nmX9 hown hK hP hD hS 0 rfl rfl 8 (by decide) (hts (.fieldLink RX9 151 "SagMemory$Tape" "value" "I") (wl_mem 10 rfl)) (fun _ h9 => h9) rfl (by decide +kernel) rfl rfl (Nat.le_of_ble_eq_true rfl) dX9_next_257 (fun H locs hP hD hS => ?_)
                              have hP : va_P (dC, dI) vwCl (List.flatten [(wTape qT k readT (va_up vz2946 3 xz2977) tz2945 aT)] ++ List.flatten ([] : List va_W)) H := hP
                              have hD : va_D A (List.flatten [(wTape qT k readT (va_up vz2946 3 xz2977) tz2945 aT)] ++ List.flatten ([] : List va_W)) := hD
                              refine lv_aload_n hx hb dX9_next_260 rfl (lv_at hl 0 rfl) ?_
                              refine lv_dup hx hb dX9_next_261 rfl ?_
                              refine va_get (D := (dC, dI)) (ci := 9) (v := .int (tz2945 1)) (C := RX9) (T := TX9) (N := 10) hx hb hts (fun w h => List.mem_cons_of_mem _ (List.mem_append_right _ (List.mem_append_left _ h))) hown hK hP 0 rfl rfl 5 (by decide) (hts (.fieldLink RX9 35 "SagMemory$Tape" "at" "I") (wl_mem 0 rfl)) (fun _ h9 => h9) rfl dX9_next_262 ?_
                              refine lv_iconst (v := 1) hx hb dX9_next_265 (by decide) ?_
                              refine lv_iadd hx hb dX9_next_266 ?_
                              refine lv_topi (fun xz2978 exz2978 => ?_)
                              have fxz2978 : xz2978.toInt = (tz2945 1).toInt + (1 : Int) := by rw [exz2978]; exact fb_addI (x := (tz2945 1)) (y := (1 : Int32)) (by show -2147483648 ≤ (tz2945 1).toInt + (1 : Int); omega) (by show (tz2945 1).toInt + (1 : Int) < 2147483648; omega)
                              refine va_put (D := (dC, dI)) (ci := 9) (v := .int xz2978) (ty := .int) (C := RX9) (T := TX9) (N := 10) hx hb hts (fun w h => List.mem_cons_of_mem _ (List.mem_append_right _ (List.mem_append_left _ h))) tyX9 tyX9_ok nmX9 hown hK hP hD hS 0 rfl rfl 5 (by decide) (hts (.fieldLink RX9 35 "SagMemory$Tape" "at" "I") (wl_mem 0 rfl)) (fun _ h9 => h9) rfl (by decide +kernel) rfl rfl (Nat.le_of_ble_eq_true rfl) dX9_next_267 (fun H locs hP hD hS => ?_)
                              have hP : va_P (dC, dI) vwCl (List.flatten [(wTape qT k readT (va_up vz2946 3 xz2977) (va_up tz2945 1 xz2978) aT)] ++ List.flatten ([] : List va_W)) H := hP
                              have hD : va_D A (List.flatten [(wTape qT k readT (va_up vz2946 3 xz2977) (va_up tz2945 1 xz2978) aT)] ++ List.flatten ([] : List va_W)) := hD
                              refine lv_goto (tgt := 205) hx hb dX9_next_270 (by decide) ?_
                              exact ih205 H locs ls (va_up tz2945 1 xz2978) (va_up vz2946 3 xz2977) (by show (700 - xz2978.toInt).toNat < n9_205; omega) (rg_up htz2945 (by show 0 ≤ xz2978.toInt ∧ xz2978.toInt ≤ 700; omega)) (by show (vz2946 4).toInt = (vT 4).toInt; omega) hP hD hS (lv_sub hl [0] rfl)
                    exact lp205_kz2947 _ H locs ls (va_up (va_up tz1068 2 (tz1068 1)) 1 xz2879) (va_up (va_up vT 2 (2 : Int32)) 3 xz2911) (Nat.lt_succ_self _) (rg_up (rg_up htz1068 (by show 0 ≤ (tz1068 1).toInt ∧ (tz1068 1).toInt ≤ 700; omega)) (by show 0 ≤ xz2879.toInt ∧ xz2879.toInt ≤ 700; omega)) (by show (vT 4).toInt = (vT 4).toInt; omega) hP hD hS (lv_sub hl [0] rfl)
              · skip
                exact absurd cz2890 (by decide)
            · obtain rfl := er.symm
              have bz2979 := fb_rng xz2880
              have zz2980 : ¬ xz2880.toInt < (97 : Int) := fun h9 => cz2884 (zi_lt.mpr h9)
              have zz2981 : (122 : Int) < xz2880.toInt := zi_lt.mp cz2885
              refine lv_if_eq (tgt := 169) hx hb dX9_next_122 (by decide) (fun cz2982 => ?_) (fun cz2982 => ?_)
              · skip
                refine lv_aload_n hx hb dX9_next_169 rfl (lv_at hl 0 rfl) ?_
                refine va_get (D := (dC, dI)) (ci := 9) (v := .ref (qT 1)) (C := RX9) (T := TX9) (N := 10) hx hb hts (fun w h => List.mem_cons_of_mem _ (List.mem_append_right _ (List.mem_append_left _ h))) hown hK hP 0 rfl rfl 0 (by decide) (hts (.fieldLink RX9 9 "SagMemory$Tape" "bytes" "[I") (wl_mem 2 rfl)) (fun _ h9 => h9) rfl dX9_next_170 ?_
                refine lv_aload_n hx hb dX9_next_173 rfl (lv_at hl 0 rfl) ?_
                refine va_get (D := (dC, dI)) (ci := 9) (v := .int (tz1068 1)) (C := RX9) (T := TX9) (N := 10) hx hb hts (fun w h => List.mem_cons_of_mem _ (List.mem_append_right _ (List.mem_append_left _ h))) hown hK hP 0 rfl rfl 7 (by decide) (hts (.fieldLink RX9 161 "SagMemory$Tape" "start" "I") (wl_mem 3 rfl)) (fun _ h9 => h9) rfl dX9_next_174 ?_
                refine va_iald hx hb hK hP 1 0 rfl rfl (vp_in_iff.mpr ⟨by omega, by omega⟩) dX9_next_177 ?_
                refine lv_topi (fun xz2983 exz2983 => ?_)
                have hPc : va_P (dC, dI) vwCl (List.flatten ([] : List va_W)) H := fun k q h => by simp at h
                refine vp_callSi (va_Run.run (va_runS (As := [.int xz2983]) (rest := []) ⟨hx, hb, hml, hown, hts⟩ (c_X9_isDigit l dC dI k xz2983) (va_cwS 1 hts (gk_S (wl_mem 8 rfl) (wl_mem 9 rfl) (wl_mem 7 rfl) (fun w h => List.mem_cons_of_mem _ (List.mem_append_right _ (List.mem_append_right _ (List.mem_append_right _ (List.mem_append_left _ h))))) wkg_c_X9_isDigit) rfl rfl rfl (by decide +kernel) ⟨Nat.le_of_ble_eq_true rfl, Nat.le_of_ble_eq_true rfl⟩) ⟨fun a U g mk q => by obtain ⟨q0, qP, qK⟩ := q; exact ⟨q0, qP, va_K.moved (u := U) (U := U.calling g mk a) (Vm.Alike.refl U.vm) qK⟩, fun U hU hW => ⟨rfl, by rw [hU]; exact hPc, va_K.moved hW.alike hK⟩⟩ rfl rfl hl.1 rfl (lv_room (Nat.le_of_ble_eq_true rfl)) dX9_next_178 ⟨Nat.le_of_ble_eq_true rfl, Nat.le_of_ble_eq_true rfl⟩)) (fun rz2985 gz2984 => ?_)
                clear hPc
                rcases gz2984 with ⟨er, cz2986⟩ | ⟨er, cz2987, cz2988⟩ | ⟨er, cz2989, cz2990⟩
                · obtain rfl := er.symm
                  have bz2991 := fb_rng xz2983
                  have zz2992 : xz2983.toInt < (48 : Int) := zi_lt.mp cz2986
                  refine lv_if_eq (tgt := 273) hx hb dX9_next_181 (by decide) (fun cz2993 => ?_) (fun cz2993 => ?_)
                  · skip
                    rw [hQ]
                    exact W.vret hx hb hr (fun t ht hW => ⟨⟨(), rfl, trivial, (va_up vT 2 (3 : Int32)), (va_up (va_up tz1068 2 (tz1068 1)) 1 xz2879), aT, (rg_up (rg_up htz1068 (by show 0 ≤ (tz1068 1).toInt ∧ (tz1068 1).toInt ≤ 700; omega)) (by show 0 ≤ xz2879.toInt ∧ xz2879.toInt ≤ 700; omega)), (by show (vT 4).toInt = (vT 4).toInt; omega), by rw [ht]; exact hP⟩, hS.F ht⟩) hS.2.2 dX9_next_273
                  · skip
                    exact absurd cz2993 (by decide)
                · obtain rfl := er.symm
                  have bz2994 := fb_rng xz2983
                  have zz2995 : ¬ xz2983.toInt < (48 : Int) := fun h9 => cz2987 (zi_lt.mpr h9)
                  have zz2996 : (57 : Int) < xz2983.toInt := zi_lt.mp cz2988
                  refine lv_if_eq (tgt := 273) hx hb dX9_next_181 (by decide) (fun cz2997 => ?_) (fun cz2997 => ?_)
                  · skip
                    rw [hQ]
                    exact W.vret hx hb hr (fun t ht hW => ⟨⟨(), rfl, trivial, (va_up vT 2 (3 : Int32)), (va_up (va_up tz1068 2 (tz1068 1)) 1 xz2879), aT, (rg_up (rg_up htz1068 (by show 0 ≤ (tz1068 1).toInt ∧ (tz1068 1).toInt ≤ 700; omega)) (by show 0 ≤ xz2879.toInt ∧ xz2879.toInt ≤ 700; omega)), (by show (vT 4).toInt = (vT 4).toInt; omega), by rw [ht]; exact hP⟩, hS.F ht⟩) hS.2.2 dX9_next_273
                  · skip
                    exact absurd cz2997 (by decide)
                · obtain rfl := er.symm
                  have bz2998 := fb_rng xz2983
                  have zz2999 : ¬ xz2983.toInt < (48 : Int) := fun h9 => cz2989 (zi_lt.mpr h9)
                  have zz3000 : ¬ (57 : Int) < xz2983.toInt := fun h9 => cz2990 (zi_lt.mpr h9)
                  refine lv_if_eq (tgt := 273) hx hb dX9_next_181 (by decide) (fun cz3001 => ?_) (fun cz3001 => ?_)
                  · skip
                    exact absurd cz3001 (by decide)
                  · skip
                    refine lv_aload_n hx hb dX9_next_184 rfl (lv_at hl 0 rfl) ?_
                    refine lv_iconst (v := 2) hx hb dX9_next_185 (by decide) ?_
                    refine va_put (D := (dC, dI)) (ci := 9) (v := .int 2) (ty := .int) (C := RX9) (T := TX9) (N := 10) hx hb hts (fun w h => List.mem_cons_of_mem _ (List.mem_append_right _ (List.mem_append_left _ h))) tyX9 tyX9_ok nmX9 hown hK hP hD hS 0 rfl rfl 6 (by decide) (hts (.fieldLink RX9 41 "SagMemory$Tape" "kind" "I") (wl_mem 4 rfl)) (fun _ h9 => h9) rfl (by decide +kernel) rfl rfl (Nat.le_of_ble_eq_true rfl) dX9_next_186 (fun H locs hP hD hS => ?_)
                    have hP : va_P (dC, dI) vwCl (List.flatten [(wTape qT k readT (va_up vT 2 (2 : Int32)) (va_up (va_up tz1068 2 (tz1068 1)) 1 xz2879) aT)] ++ List.flatten ([] : List va_W)) H := hP
                    have hD : va_D A (List.flatten [(wTape qT k readT (va_up vT 2 (2 : Int32)) (va_up (va_up tz1068 2 (tz1068 1)) 1 xz2879) aT)] ++ List.flatten ([] : List va_W)) := hD
                    refine lv_aload_n hx hb dX9_next_189 rfl (lv_at hl 0 rfl) ?_
                    refine lv_aload_n hx hb dX9_next_190 rfl (lv_at hl 0 rfl) ?_
                    refine va_get (D := (dC, dI)) (ci := 9) (v := .ref (qT 1)) (C := RX9) (T := TX9) (N := 10) hx hb hts (fun w h => List.mem_cons_of_mem _ (List.mem_append_right _ (List.mem_append_left _ h))) hown hK hP 0 rfl rfl 0 (by decide) (hts (.fieldLink RX9 9 "SagMemory$Tape" "bytes" "[I") (wl_mem 2 rfl)) (fun _ h9 => h9) rfl dX9_next_191 ?_
                    refine lv_aload_n hx hb dX9_next_194 rfl (lv_at hl 0 rfl) ?_
                    refine va_get (D := (dC, dI)) (ci := 9) (v := .int (tz1068 1)) (C := RX9) (T := TX9) (N := 10) hx hb hts (fun w h => List.mem_cons_of_mem _ (List.mem_append_right _ (List.mem_append_left _ h))) hown hK hP 0 rfl rfl 7 (by decide) (hts (.fieldLink RX9 161 "SagMemory$Tape" "start" "I") (wl_mem 3 rfl)) (fun _ h9 => h9) rfl dX9_next_195 ?_
                    refine va_iald hx hb hK hP 1 0 rfl rfl (vp_in_iff.mpr ⟨by omega, by omega⟩) dX9_next_198 ?_
                    refine lv_topi (fun xz3002 exz3002 => ?_)
                    refine lv_bipush (v := 48) hx hb dX9_next_199 (by decide) ?_
                    refine lv_isub hx hb dX9_next_201 ?_
                    refine lv_topi (fun xz3003 exz3003 => ?_)
                    refine va_put (D := (dC, dI)) (ci := 9) (v := .int xz3003) (ty := .int) (C := RX9) (T := TX9) (N := 10) hx hb hts (fun w h => List.mem_cons_of_mem _ (List.mem_append_right _ (List.mem_append_left _ h))) tyX9 tyX9_ok nmX9 hown hK hP hD hS 0 rfl rfl 8 (by decide) (hts (.fieldLink RX9 151 "SagMemory$Tape" "value" "I") (wl_mem 10 rfl)) (fun _ h9 => h9) rfl (by decide +kernel) rfl rfl (Nat.le_of_ble_eq_true rfl) dX9_next_202 (fun H locs hP hD hS => ?_)
                    have hP : va_P (dC, dI) vwCl (List.flatten [(wTape qT k readT (va_up (va_up vT 2 (2 : Int32)) 3 xz3003) (va_up (va_up tz1068 2 (tz1068 1)) 1 xz2879) aT)] ++ List.flatten ([] : List va_W)) H := hP
                    have hD : va_D A (List.flatten [(wTape qT k readT (va_up (va_up vT 2 (2 : Int32)) 3 xz3003) (va_up (va_up tz1068 2 (tz1068 1)) 1 xz2879) aT)] ++ List.flatten ([] : List va_W)) := hD
                    have lp205_kz3039 : ∀ (n9_205 : Nat) (H : Heap) (locs : List Loc) (ls : Array Slot) (tz3037 : Nat → Int32) (vz3038 : Nat → Int32), (700 - (tz3037 1).toInt).toNat < n9_205 → Rg 0 700 tz3037 → (vz3038 4).toInt = (vT 4).toInt → va_P (dC, dI) vwCl (List.flatten [(wTape qT k readT vz3038 tz3037 aT)] ++ List.flatten ([] : List va_W)) H → va_D A (List.flatten [(wTape qT k readT vz3038 tz3037 aT)] ++ List.flatten ([] : List va_W)) → va_S A s.heap H locs → lv_has ls 1 [(0, .ref (qT 0))] → W p l e (headSpec wk_c_X9_next ({ frames := 1, cells := 0, slots := 0, locals := 80 })).room s m ([.ref (qT 0)] : List Value).toArray below meth c H locs 0 0 Q (F0 m 205 ls []) := by
                      intro n9_205
                      induction n9_205 with
                      | zero => intro H locs ls tz3037 vz3038 hm; exact absurd hm (Nat.not_lt_zero _)
                      | succ n9_205 ih205 =>
                        intro H locs ls tz3037 vz3038 hm205 htz3037 jz3040 hP hD hS hl
                        refine lv_aload_n hx hb dX9_next_205 rfl (lv_at hl 0 rfl) ?_
                        refine va_get (D := (dC, dI)) (ci := 9) (v := .int (tz3037 1)) (C := RX9) (T := TX9) (N := 10) hx hb hts (fun w h => List.mem_cons_of_mem _ (List.mem_append_right _ (List.mem_append_left _ h))) hown hK hP 0 rfl rfl 5 (by decide) (hts (.fieldLink RX9 35 "SagMemory$Tape" "at" "I") (wl_mem 0 rfl)) (fun _ h9 => h9) rfl dX9_next_206 ?_
                        have bz3041 := htz3037 1
                        refine lv_aload_n hx hb dX9_next_209 rfl (lv_at hl 0 rfl) ?_
                        refine va_get (D := (dC, dI)) (ci := 9) (v := .int (tz3037 0)) (C := RX9) (T := TX9) (N := 10) hx hb hts (fun w h => List.mem_cons_of_mem _ (List.mem_append_right _ (List.mem_append_left _ h))) hown hK hP 0 rfl rfl 2 (by decide) (hts (.fieldLink RX9 26 "SagMemory$Tape" "length" "I") (wl_mem 1 rfl)) (fun _ h9 => h9) rfl dX9_next_210 ?_
                        have bz3042 := htz3037 0
                        refine lv_icmp_ge (tgt := 273) hx hb dX9_next_213 (by decide) (fun cz3043 => ?_) (fun cz3043 => ?_)
                        · skip
                          have zz3044 : (tz3037 0).toInt ≤ (tz3037 1).toInt := zi_le.mp cz3043
                          rw [hQ]
                          exact W.vret hx hb hr (fun t ht hW => ⟨⟨(), rfl, trivial, vz3038, tz3037, aT, htz3037, (by show (vz3038 4).toInt = (vT 4).toInt; omega), by rw [ht]; exact hP⟩, hS.F ht⟩) hS.2.2 dX9_next_273
                        · skip
                          have zz3045 : ¬ (tz3037 0).toInt ≤ (tz3037 1).toInt := fun h9 => cz3043 (zi_le.mpr h9)
                          refine lv_aload_n hx hb dX9_next_216 rfl (lv_at hl 0 rfl) ?_
                          refine va_get (D := (dC, dI)) (ci := 9) (v := .ref (qT 1)) (C := RX9) (T := TX9) (N := 10) hx hb hts (fun w h => List.mem_cons_of_mem _ (List.mem_append_right _ (List.mem_append_left _ h))) hown hK hP 0 rfl rfl 0 (by decide) (hts (.fieldLink RX9 9 "SagMemory$Tape" "bytes" "[I") (wl_mem 2 rfl)) (fun _ h9 => h9) rfl dX9_next_217 ?_
                          refine lv_aload_n hx hb dX9_next_220 rfl (lv_at hl 0 rfl) ?_
                          refine va_get (D := (dC, dI)) (ci := 9) (v := .int (tz3037 1)) (C := RX9) (T := TX9) (N := 10) hx hb hts (fun w h => List.mem_cons_of_mem _ (List.mem_append_right _ (List.mem_append_left _ h))) hown hK hP 0 rfl rfl 5 (by decide) (hts (.fieldLink RX9 35 "SagMemory$Tape" "at" "I") (wl_mem 0 rfl)) (fun _ h9 => h9) rfl dX9_next_221 ?_
                          refine va_iald hx hb hK hP 1 0 rfl rfl (vp_in_iff.mpr ⟨by omega, by omega⟩) dX9_next_224 ?_
                          refine lv_topi (fun xz3046 exz3046 => ?_)
                          have hPc : va_P (dC, dI) vwCl (List.flatten ([] : List va_W)) H := fun k q h => by simp at h
                          refine vp_callSi (va_Run.run (va_runS (As := [.int xz3046]) (rest := []) ⟨hx, hb, hml, hown, hts⟩ (c_X9_isDigit l dC dI k xz3046) (va_cwS 1 hts (gk_S (wl_mem 8 rfl) (wl_mem 9 rfl) (wl_mem 7 rfl) (fun w h => List.mem_cons_of_mem _ (List.mem_append_right _ (List.mem_append_right _ (List.mem_append_right _ (List.mem_append_left _ h))))) wkg_c_X9_isDigit) rfl rfl rfl (by decide +kernel) ⟨Nat.le_of_ble_eq_true rfl, Nat.le_of_ble_eq_true rfl⟩) ⟨fun a U g mk q => by obtain ⟨q0, qP, qK⟩ := q; exact ⟨q0, qP, va_K.moved (u := U) (U := U.calling g mk a) (Vm.Alike.refl U.vm) qK⟩, fun U hU hW => ⟨rfl, by rw [hU]; exact hPc, va_K.moved hW.alike hK⟩⟩ rfl rfl hl.1 rfl (lv_room (Nat.le_of_ble_eq_true rfl)) dX9_next_225 ⟨Nat.le_of_ble_eq_true rfl, Nat.le_of_ble_eq_true rfl⟩)) (fun rz3048 gz3047 => ?_)
                          clear hPc
                          rcases gz3047 with ⟨er, cz3049⟩ | ⟨er, cz3050, cz3051⟩ | ⟨er, cz3052, cz3053⟩
                          · obtain rfl := er.symm
                            have bz3054 := fb_rng xz3046
                            have zz3055 : xz3046.toInt < (48 : Int) := zi_lt.mp cz3049
                            refine lv_if_eq (tgt := 273) hx hb dX9_next_228 (by decide) (fun cz3056 => ?_) (fun cz3056 => ?_)
                            · skip
                              rw [hQ]
                              exact W.vret hx hb hr (fun t ht hW => ⟨⟨(), rfl, trivial, vz3038, tz3037, aT, htz3037, (by show (vz3038 4).toInt = (vT 4).toInt; omega), by rw [ht]; exact hP⟩, hS.F ht⟩) hS.2.2 dX9_next_273
                            · skip
                              exact absurd cz3056 (by decide)
                          · obtain rfl := er.symm
                            have bz3057 := fb_rng xz3046
                            have zz3058 : ¬ xz3046.toInt < (48 : Int) := fun h9 => cz3050 (zi_lt.mpr h9)
                            have zz3059 : (57 : Int) < xz3046.toInt := zi_lt.mp cz3051
                            refine lv_if_eq (tgt := 273) hx hb dX9_next_228 (by decide) (fun cz3060 => ?_) (fun cz3060 => ?_)
                            · skip
                              rw [hQ]
                              exact W.vret hx hb hr (fun t ht hW => ⟨⟨(), rfl, trivial, vz3038, tz3037, aT, htz3037, (by show (vz3038 4).toInt = (vT 4).toInt; omega), by rw [ht]; exact hP⟩, hS.F ht⟩) hS.2.2 dX9_next_273
                            · skip
                              exact absurd cz3060 (by decide)
                          · obtain rfl := er.symm
                            have bz3061 := fb_rng xz3046
                            have zz3062 : ¬ xz3046.toInt < (48 : Int) := fun h9 => cz3052 (zi_lt.mpr h9)
                            have zz3063 : ¬ (57 : Int) < xz3046.toInt := fun h9 => cz3053 (zi_lt.mpr h9)
                            refine lv_if_eq (tgt := 273) hx hb dX9_next_228 (by decide) (fun cz3064 => ?_) (fun cz3064 => ?_)
                            · skip
                              exact absurd cz3064 (by decide)
                            · skip
                              refine lv_aload_n hx hb dX9_next_231 rfl (lv_at hl 0 rfl) ?_
                              refine lv_ldc (v := 100000) hx hb hown (hts (.constant RX9 179 (100000)) (wl_mem 11 rfl)) dX9_next_232 ?_
                              refine lv_aload_n hx hb dX9_next_234 rfl (lv_at hl 0 rfl) ?_
                              refine va_get (D := (dC, dI)) (ci := 9) (v := .int (vz3038 3)) (C := RX9) (T := TX9) (N := 10) hx hb hts (fun w h => List.mem_cons_of_mem _ (List.mem_append_right _ (List.mem_append_left _ h))) hown hK hP 0 rfl rfl 8 (by decide) (hts (.fieldLink RX9 151 "SagMemory$Tape" "value" "I") (wl_mem 10 rfl)) (fun _ h9 => h9) rfl dX9_next_235 ?_
                              refine lv_bipush (v := 10) hx hb dX9_next_238 (by decide) ?_
                              refine lv_imul hx hb dX9_next_240 ?_
                              refine lv_topi (fun xz3065 exz3065 => ?_)
                              refine lv_aload_n hx hb dX9_next_241 rfl (lv_at hl 0 rfl) ?_
                              refine va_get (D := (dC, dI)) (ci := 9) (v := .ref (qT 1)) (C := RX9) (T := TX9) (N := 10) hx hb hts (fun w h => List.mem_cons_of_mem _ (List.mem_append_right _ (List.mem_append_left _ h))) hown hK hP 0 rfl rfl 0 (by decide) (hts (.fieldLink RX9 9 "SagMemory$Tape" "bytes" "[I") (wl_mem 2 rfl)) (fun _ h9 => h9) rfl dX9_next_242 ?_
                              refine lv_aload_n hx hb dX9_next_245 rfl (lv_at hl 0 rfl) ?_
                              refine va_get (D := (dC, dI)) (ci := 9) (v := .int (tz3037 1)) (C := RX9) (T := TX9) (N := 10) hx hb hts (fun w h => List.mem_cons_of_mem _ (List.mem_append_right _ (List.mem_append_left _ h))) hown hK hP 0 rfl rfl 5 (by decide) (hts (.fieldLink RX9 35 "SagMemory$Tape" "at" "I") (wl_mem 0 rfl)) (fun _ h9 => h9) rfl dX9_next_246 ?_
                              refine va_iald hx hb hK hP 1 0 rfl rfl (vp_in_iff.mpr ⟨by omega, by omega⟩) dX9_next_249 ?_
                              refine lv_topi (fun xz3066 exz3066 => ?_)
                              refine lv_iadd hx hb dX9_next_250 ?_
                              refine lv_topi (fun xz3067 exz3067 => ?_)
                              refine lv_bipush (v := 48) hx hb dX9_next_251 (by decide) ?_
                              refine lv_isub hx hb dX9_next_253 ?_
                              refine lv_topi (fun xz3068 exz3068 => ?_)
                              refine va_mmin hx hb (by rw [hml]; exact hl.1.symm) hown (hts (.methodLink RX9 180 Lib.Math.min.name) (wl_mem 12 rfl)) (hts (.static Lib.Math.min.name) (wl_mem 13 rfl)) (hts (.initialized "java/lang/Math") (wl_mem 14 rfl)) (hts (.code Lib.Math.min.name Lib.Math.min.code 2 (some .int)) (wl_mem 15 rfl)) (Nat.le_of_ble_eq_true rfl) (Nat.le_of_ble_eq_true rfl) (Nat.zero_le _) (Nat.zero_le _) dX9_next_254 ?_
                              refine lv_topi (fun xz3069 exz3069 => ?_)
                              refine va_put (D := (dC, dI)) (ci := 9) (v := .int xz3069) (ty := .int) (C := RX9) (T := TX9) (N := 10) hx hb hts (fun w h => List.mem_cons_of_mem _ (List.mem_append_right _ (List.mem_append_left _ h))) tyX9 tyX9_ok nmX9 hown hK hP hD hS 0 rfl rfl 8 (by decide) (hts (.fieldLink RX9 151 "SagMemory$Tape" "value" "I") (wl_mem 10 rfl)) (fun _ h9 => h9) rfl (by decide +kernel) rfl rfl (Nat.le_of_ble_eq_true rfl) dX9_next_257 (fun H locs hP hD hS => ?_)
                              have hP : va_P (dC, dI) vwCl (List.flatten [(wTape qT k readT (va_up vz3038 3 xz3069) tz3037 aT)] ++ List.flatten ([] : List va_W)) H := hP
                              have hD : va_D A (List.flatten [(wTape qT k readT (va_up vz3038 3 xz3069) tz3037 aT)] ++ List.flatten ([] : List va_W)) := hD
                              refine lv_aload_n hx hb dX9_next_260 rfl (lv_at hl 0 rfl) ?_
                              refine lv_dup hx hb dX9_next_261 rfl ?_
                              refine va_get (D := (dC, dI)) (ci := 9) (v := .int (tz3037 1)) (C := RX9) (T := TX9) (N := 10) hx hb hts (fun w h => List.mem_cons_of_mem _ (List.mem_append_right _ (List.mem_append_left _ h))) hown hK hP 0 rfl rfl 5 (by decide) (hts (.fieldLink RX9 35 "SagMemory$Tape" "at" "I") (wl_mem 0 rfl)) (fun _ h9 => h9) rfl dX9_next_262 ?_
                              refine lv_iconst (v := 1) hx hb dX9_next_265 (by decide) ?_
                              refine lv_iadd hx hb dX9_next_266 ?_
                              refine lv_topi (fun xz3070 exz3070 => ?_)
                              have fxz3070 : xz3070.toInt = (tz3037 1).toInt + (1 : Int) := by rw [exz3070]; exact fb_addI (x := (tz3037 1)) (y := (1 : Int32)) (by show -2147483648 ≤ (tz3037 1).toInt + (1 : Int); omega) (by show (tz3037 1).toInt + (1 : Int) < 2147483648; omega)
                              refine va_put (D := (dC, dI)) (ci := 9) (v := .int xz3070) (ty := .int) (C := RX9) (T := TX9) (N := 10) hx hb hts (fun w h => List.mem_cons_of_mem _ (List.mem_append_right _ (List.mem_append_left _ h))) tyX9 tyX9_ok nmX9 hown hK hP hD hS 0 rfl rfl 5 (by decide) (hts (.fieldLink RX9 35 "SagMemory$Tape" "at" "I") (wl_mem 0 rfl)) (fun _ h9 => h9) rfl (by decide +kernel) rfl rfl (Nat.le_of_ble_eq_true rfl) dX9_next_267 (fun H locs hP hD hS => ?_)
                              have hP : va_P (dC, dI) vwCl (List.flatten [(wTape qT k readT (va_up vz3038 3 xz3069) (va_up tz3037 1 xz3070) aT)] ++ List.flatten ([] : List va_W)) H := hP
                              have hD : va_D A (List.flatten [(wTape qT k readT (va_up vz3038 3 xz3069) (va_up tz3037 1 xz3070) aT)] ++ List.flatten ([] : List va_W)) := hD
                              refine lv_goto (tgt := 205) hx hb dX9_next_270 (by decide) ?_
                              exact ih205 H locs ls (va_up tz3037 1 xz3070) (va_up vz3038 3 xz3069) (by show (700 - xz3070.toInt).toNat < n9_205; omega) (rg_up htz3037 (by show 0 ≤ xz3070.toInt ∧ xz3070.toInt ≤ 700; omega)) (by show (vz3038 4).toInt = (vT 4).toInt; omega) hP hD hS (lv_sub hl [0] rfl)
                    exact lp205_kz3039 _ H locs ls (va_up (va_up tz1068 2 (tz1068 1)) 1 xz2879) (va_up (va_up vT 2 (2 : Int32)) 3 xz3003) (Nat.lt_succ_self _) (rg_up (rg_up htz1068 (by show 0 ≤ (tz1068 1).toInt ∧ (tz1068 1).toInt ≤ 700; omega)) (by show 0 ≤ xz2879.toInt ∧ xz2879.toInt ≤ 700; omega)) (by show (vT 4).toInt = (vT 4).toInt; omega) hP hD hS (lv_sub hl [0] rfl)
              · skip
                exact absurd cz2982 (by decide)
            · obtain rfl := er.symm
              have bz3071 := fb_rng xz2880
              have zz3072 : ¬ xz2880.toInt < (97 : Int) := fun h9 => cz2886 (zi_lt.mpr h9)
              have zz3073 : ¬ (122 : Int) < xz2880.toInt := fun h9 => cz2887 (zi_lt.mpr h9)
              refine lv_if_eq (tgt := 169) hx hb dX9_next_122 (by decide) (fun cz3074 => ?_) (fun cz3074 => ?_)
              · skip
                exact absurd cz3074 (by decide)
              · skip
                refine lv_aload_n hx hb dX9_next_125 rfl (lv_at hl 0 rfl) ?_
                refine lv_iconst (v := 1) hx hb dX9_next_126 (by decide) ?_
                refine va_put (D := (dC, dI)) (ci := 9) (v := .int 1) (ty := .int) (C := RX9) (T := TX9) (N := 10) hx hb hts (fun w h => List.mem_cons_of_mem _ (List.mem_append_right _ (List.mem_append_left _ h))) tyX9 tyX9_ok nmX9 hown hK hP hD hS 0 rfl rfl 6 (by decide) (hts (.fieldLink RX9 41 "SagMemory$Tape" "kind" "I") (wl_mem 4 rfl)) (fun _ h9 => h9) rfl (by decide +kernel) rfl rfl (Nat.le_of_ble_eq_true rfl) dX9_next_127 (fun H locs hP hD hS => ?_)
                have hP : va_P (dC, dI) vwCl (List.flatten [(wTape qT k readT (va_up vT 2 (1 : Int32)) (va_up (va_up tz1068 2 (tz1068 1)) 1 xz2879) aT)] ++ List.flatten ([] : List va_W)) H := hP
                have hD : va_D A (List.flatten [(wTape qT k readT (va_up vT 2 (1 : Int32)) (va_up (va_up tz1068 2 (tz1068 1)) 1 xz2879) aT)] ++ List.flatten ([] : List va_W)) := hD
                have lp130_kz3104 : ∀ (n9_130 : Nat) (H : Heap) (locs : List Loc) (ls : Array Slot) (tz3103 : Nat → Int32), (700 - (tz3103 1).toInt).toNat < n9_130 → Rg 0 700 tz3103 → (vT 4).toInt = (vT 4).toInt → va_P (dC, dI) vwCl (List.flatten [(wTape qT k readT (va_up vT 2 (1 : Int32)) tz3103 aT)] ++ List.flatten ([] : List va_W)) H → va_D A (List.flatten [(wTape qT k readT (va_up vT 2 (1 : Int32)) tz3103 aT)] ++ List.flatten ([] : List va_W)) → va_S A s.heap H locs → lv_has ls 1 [(0, .ref (qT 0))] → W p l e (headSpec wk_c_X9_next ({ frames := 1, cells := 0, slots := 0, locals := 80 })).room s m ([.ref (qT 0)] : List Value).toArray below meth c H locs 0 0 Q (F0 m 130 ls []) := by
                  intro n9_130
                  induction n9_130 with
                  | zero => intro H locs ls tz3103 hm; exact absurd hm (Nat.not_lt_zero _)
                  | succ n9_130 ih130 =>
                    intro H locs ls tz3103 hm130 htz3103 jz3105 hP hD hS hl
                    refine lv_aload_n hx hb dX9_next_130 rfl (lv_at hl 0 rfl) ?_
                    refine va_get (D := (dC, dI)) (ci := 9) (v := .int (tz3103 1)) (C := RX9) (T := TX9) (N := 10) hx hb hts (fun w h => List.mem_cons_of_mem _ (List.mem_append_right _ (List.mem_append_left _ h))) hown hK hP 0 rfl rfl 5 (by decide) (hts (.fieldLink RX9 35 "SagMemory$Tape" "at" "I") (wl_mem 0 rfl)) (fun _ h9 => h9) rfl dX9_next_131 ?_
                    have bz3106 := htz3103 1
                    refine lv_aload_n hx hb dX9_next_134 rfl (lv_at hl 0 rfl) ?_
                    refine va_get (D := (dC, dI)) (ci := 9) (v := .int (tz3103 0)) (C := RX9) (T := TX9) (N := 10) hx hb hts (fun w h => List.mem_cons_of_mem _ (List.mem_append_right _ (List.mem_append_left _ h))) hown hK hP 0 rfl rfl 2 (by decide) (hts (.fieldLink RX9 26 "SagMemory$Tape" "length" "I") (wl_mem 1 rfl)) (fun _ h9 => h9) rfl dX9_next_135 ?_
                    have bz3107 := htz3103 0
                    refine lv_icmp_ge (tgt := 273) hx hb dX9_next_138 (by decide) (fun cz3108 => ?_) (fun cz3108 => ?_)
                    · skip
                      have zz3109 : (tz3103 0).toInt ≤ (tz3103 1).toInt := zi_le.mp cz3108
                      rw [hQ]
                      exact W.vret hx hb hr (fun t ht hW => ⟨⟨(), rfl, trivial, (va_up vT 2 (1 : Int32)), tz3103, aT, htz3103, (by show (vT 4).toInt = (vT 4).toInt; omega), by rw [ht]; exact hP⟩, hS.F ht⟩) hS.2.2 dX9_next_273
                    · skip
                      have zz3110 : ¬ (tz3103 0).toInt ≤ (tz3103 1).toInt := fun h9 => cz3108 (zi_le.mpr h9)
                      refine lv_aload_n hx hb dX9_next_141 rfl (lv_at hl 0 rfl) ?_
                      refine va_get (D := (dC, dI)) (ci := 9) (v := .ref (qT 1)) (C := RX9) (T := TX9) (N := 10) hx hb hts (fun w h => List.mem_cons_of_mem _ (List.mem_append_right _ (List.mem_append_left _ h))) hown hK hP 0 rfl rfl 0 (by decide) (hts (.fieldLink RX9 9 "SagMemory$Tape" "bytes" "[I") (wl_mem 2 rfl)) (fun _ h9 => h9) rfl dX9_next_142 ?_
                      refine lv_aload_n hx hb dX9_next_145 rfl (lv_at hl 0 rfl) ?_
                      refine va_get (D := (dC, dI)) (ci := 9) (v := .int (tz3103 1)) (C := RX9) (T := TX9) (N := 10) hx hb hts (fun w h => List.mem_cons_of_mem _ (List.mem_append_right _ (List.mem_append_left _ h))) hown hK hP 0 rfl rfl 5 (by decide) (hts (.fieldLink RX9 35 "SagMemory$Tape" "at" "I") (wl_mem 0 rfl)) (fun _ h9 => h9) rfl dX9_next_146 ?_
                      refine va_iald hx hb hK hP 1 0 rfl rfl (vp_in_iff.mpr ⟨by omega, by omega⟩) dX9_next_149 ?_
                      refine lv_topi (fun xz3111 exz3111 => ?_)
                      have hPc : va_P (dC, dI) vwCl (List.flatten ([] : List va_W)) H := fun k q h => by simp at h
                      refine vp_callSi (va_Run.run (va_runS (As := [.int xz3111]) (rest := []) ⟨hx, hb, hml, hown, hts⟩ (c_X9_isLetter l dC dI k xz3111) (va_cwS 1 hts (gk_S (wl_mem 5 rfl) (wl_mem 6 rfl) (wl_mem 7 rfl) (fun w h => List.mem_cons_of_mem _ (List.mem_append_right _ (List.mem_append_right _ (List.mem_append_left _ h)))) wkg_c_X9_isLetter) rfl rfl rfl (by decide +kernel) ⟨Nat.le_of_ble_eq_true rfl, Nat.le_of_ble_eq_true rfl⟩) ⟨fun a U g mk q => by obtain ⟨q0, qP, qK⟩ := q; exact ⟨q0, qP, va_K.moved (u := U) (U := U.calling g mk a) (Vm.Alike.refl U.vm) qK⟩, fun U hU hW => ⟨rfl, by rw [hU]; exact hPc, va_K.moved hW.alike hK⟩⟩ rfl rfl hl.1 rfl (lv_room (Nat.le_of_ble_eq_true rfl)) dX9_next_150 ⟨Nat.le_of_ble_eq_true rfl, Nat.le_of_ble_eq_true rfl⟩)) (fun rz3113 gz3112 => ?_)
                      clear hPc
                      rcases gz3112 with ⟨er, cz3114⟩ | ⟨er, cz3115, cz3116⟩ | ⟨er, cz3117, cz3118⟩
                      · obtain rfl := er.symm
                        have bz3119 := fb_rng xz3111
                        have zz3120 : xz3111.toInt < (97 : Int) := zi_lt.mp cz3114
                        refine lv_if_eq (tgt := 273) hx hb dX9_next_153 (by decide) (fun cz3121 => ?_) (fun cz3121 => ?_)
                        · skip
                          rw [hQ]
                          exact W.vret hx hb hr (fun t ht hW => ⟨⟨(), rfl, trivial, (va_up vT 2 (1 : Int32)), tz3103, aT, htz3103, (by show (vT 4).toInt = (vT 4).toInt; omega), by rw [ht]; exact hP⟩, hS.F ht⟩) hS.2.2 dX9_next_273
                        · skip
                          exact absurd cz3121 (by decide)
                      · obtain rfl := er.symm
                        have bz3122 := fb_rng xz3111
                        have zz3123 : ¬ xz3111.toInt < (97 : Int) := fun h9 => cz3115 (zi_lt.mpr h9)
                        have zz3124 : (122 : Int) < xz3111.toInt := zi_lt.mp cz3116
                        refine lv_if_eq (tgt := 273) hx hb dX9_next_153 (by decide) (fun cz3125 => ?_) (fun cz3125 => ?_)
                        · skip
                          rw [hQ]
                          exact W.vret hx hb hr (fun t ht hW => ⟨⟨(), rfl, trivial, (va_up vT 2 (1 : Int32)), tz3103, aT, htz3103, (by show (vT 4).toInt = (vT 4).toInt; omega), by rw [ht]; exact hP⟩, hS.F ht⟩) hS.2.2 dX9_next_273
                        · skip
                          exact absurd cz3125 (by decide)
                      · obtain rfl := er.symm
                        have bz3126 := fb_rng xz3111
                        have zz3127 : ¬ xz3111.toInt < (97 : Int) := fun h9 => cz3117 (zi_lt.mpr h9)
                        have zz3128 : ¬ (122 : Int) < xz3111.toInt := fun h9 => cz3118 (zi_lt.mpr h9)
                        refine lv_if_eq (tgt := 273) hx hb dX9_next_153 (by decide) (fun cz3129 => ?_) (fun cz3129 => ?_)
                        · skip
                          exact absurd cz3129 (by decide)
                        · skip
                          refine lv_aload_n hx hb dX9_next_156 rfl (lv_at hl 0 rfl) ?_
                          refine lv_dup hx hb dX9_next_157 rfl ?_
                          refine va_get (D := (dC, dI)) (ci := 9) (v := .int (tz3103 1)) (C := RX9) (T := TX9) (N := 10) hx hb hts (fun w h => List.mem_cons_of_mem _ (List.mem_append_right _ (List.mem_append_left _ h))) hown hK hP 0 rfl rfl 5 (by decide) (hts (.fieldLink RX9 35 "SagMemory$Tape" "at" "I") (wl_mem 0 rfl)) (fun _ h9 => h9) rfl dX9_next_158 ?_
                          refine lv_iconst (v := 1) hx hb dX9_next_161 (by decide) ?_
                          refine lv_iadd hx hb dX9_next_162 ?_
                          refine lv_topi (fun xz3130 exz3130 => ?_)
                          have fxz3130 : xz3130.toInt = (tz3103 1).toInt + (1 : Int) := by rw [exz3130]; exact fb_addI (x := (tz3103 1)) (y := (1 : Int32)) (by show -2147483648 ≤ (tz3103 1).toInt + (1 : Int); omega) (by show (tz3103 1).toInt + (1 : Int) < 2147483648; omega)
                          refine va_put (D := (dC, dI)) (ci := 9) (v := .int xz3130) (ty := .int) (C := RX9) (T := TX9) (N := 10) hx hb hts (fun w h => List.mem_cons_of_mem _ (List.mem_append_right _ (List.mem_append_left _ h))) tyX9 tyX9_ok nmX9 hown hK hP hD hS 0 rfl rfl 5 (by decide) (hts (.fieldLink RX9 35 "SagMemory$Tape" "at" "I") (wl_mem 0 rfl)) (fun _ h9 => h9) rfl (by decide +kernel) rfl rfl (Nat.le_of_ble_eq_true rfl) dX9_next_163 (fun H locs hP hD hS => ?_)
                          have hP : va_P (dC, dI) vwCl (List.flatten [(wTape qT k readT (va_up vT 2 (1 : Int32)) (va_up tz3103 1 xz3130) aT)] ++ List.flatten ([] : List va_W)) H := hP
                          have hD : va_D A (List.flatten [(wTape qT k readT (va_up vT 2 (1 : Int32)) (va_up tz3103 1 xz3130) aT)] ++ List.flatten ([] : List va_W)) := hD
                          refine lv_goto (tgt := 130) hx hb dX9_next_166 (by decide) ?_
                          exact ih130 H locs ls (va_up tz3103 1 xz3130) (by show (700 - xz3130.toInt).toNat < n9_130; omega) (rg_up htz3103 (by show 0 ≤ xz3130.toInt ∧ xz3130.toInt ≤ 700; omega)) (by show (vT 4).toInt = (vT 4).toInt; omega) hP hD hS (lv_sub hl [0] rfl)
                exact lp130_kz3104 _ H locs ls (va_up (va_up tz1068 2 (tz1068 1)) 1 xz2879) (Nat.lt_succ_self _) (rg_up (rg_up htz1068 (by show 0 ≤ (tz1068 1).toInt ∧ (tz1068 1).toInt ≤ 700; omega)) (by show 0 ≤ xz2879.toInt ∧ xz2879.toInt ≤ 700; omega)) (by show (vT 4).toInt = (vT 4).toInt; omega) hP hD hS (lv_sub hl [0] rfl)
        · skip
          have zz3131 : ¬ (tz1068 1).toInt < (tz1068 0).toInt := fun h9 => cz2114 (zi_lt.mpr h9)
          refine lv_aload_n hx hb dX9_next_71 rfl (lv_at hl 0 rfl) ?_
          refine lv_iconst (v := 0) hx hb dX9_next_72 (by decide) ?_
          refine va_put (D := (dC, dI)) (ci := 9) (v := .int 0) (ty := .int) (C := RX9) (T := TX9) (N := 10) hx hb hts (fun w h => List.mem_cons_of_mem _ (List.mem_append_right _ (List.mem_append_left _ h))) tyX9 tyX9_ok nmX9 hown hK hP hD hS 0 rfl rfl 6 (by decide) (hts (.fieldLink RX9 41 "SagMemory$Tape" "kind" "I") (wl_mem 4 rfl)) (fun _ h9 => h9) rfl (by decide +kernel) rfl rfl (Nat.le_of_ble_eq_true rfl) dX9_next_73 (fun H locs hP hD hS => ?_)
          have hP : va_P (dC, dI) vwCl (List.flatten [(wTape qT k readT (va_up vT 2 (0 : Int32)) (va_up tz1068 2 (tz1068 1)) aT)] ++ List.flatten ([] : List va_W)) H := hP
          have hD : va_D A (List.flatten [(wTape qT k readT (va_up vT 2 (0 : Int32)) (va_up tz1068 2 (tz1068 1)) aT)] ++ List.flatten ([] : List va_W)) := hD
          rw [hQ]
          exact W.vret hx hb hr (fun t ht hW => ⟨⟨(), rfl, trivial, (va_up vT 2 (0 : Int32)), (va_up tz1068 2 (tz1068 1)), aT, (rg_up htz1068 (by show 0 ≤ (tz1068 1).toInt ∧ (tz1068 1).toInt ≤ 700; omega)), (by show (vT 4).toInt = (vT 4).toInt; omega), by rw [ht]; exact hP⟩, hS.F ht⟩) hS.2.2 dX9_next_76
      refine lv_icmp_ge (tgt := 52) hx hb dX9_next_8 (by decide) (fun cz3132 => ?_) (fun cz3132 => ?_)
      · skip
        have zz3133 : (tz1068 0).toInt ≤ (tz1068 1).toInt := zi_le.mp cz3132
        exact ct52_kz2112 H locs ls  (by show (vT 4).toInt = (vT 4).toInt; omega) hP hD hS (lv_sub hl [0] rfl)
      · skip
        have zz3134 : ¬ (tz1068 0).toInt ≤ (tz1068 1).toInt := fun h9 => cz3132 (zi_le.mpr h9)
        refine lv_aload_n hx hb dX9_next_11 rfl (lv_at hl 0 rfl) ?_
        refine va_get (D := (dC, dI)) (ci := 9) (v := .ref (qT 1)) (C := RX9) (T := TX9) (N := 10) hx hb hts (fun w h => List.mem_cons_of_mem _ (List.mem_append_right _ (List.mem_append_left _ h))) hown hK hP 0 rfl rfl 0 (by decide) (hts (.fieldLink RX9 9 "SagMemory$Tape" "bytes" "[I") (wl_mem 2 rfl)) (fun _ h9 => h9) rfl dX9_next_12 ?_
        refine lv_aload_n hx hb dX9_next_15 rfl (lv_at hl 0 rfl) ?_
        refine va_get (D := (dC, dI)) (ci := 9) (v := .int (tz1068 1)) (C := RX9) (T := TX9) (N := 10) hx hb hts (fun w h => List.mem_cons_of_mem _ (List.mem_append_right _ (List.mem_append_left _ h))) hown hK hP 0 rfl rfl 5 (by decide) (hts (.fieldLink RX9 35 "SagMemory$Tape" "at" "I") (wl_mem 0 rfl)) (fun _ h9 => h9) rfl dX9_next_16 ?_
        refine va_iald hx hb hK hP 1 0 rfl rfl (vp_in_iff.mpr ⟨by omega, by omega⟩) dX9_next_19 ?_
        refine lv_topi (fun xz3135 exz3135 => ?_)
        refine lv_bipush (v := 32) hx hb dX9_next_20 (by decide) ?_
        have ct39_kz3143 : ∀ (H : Heap) (locs : List Loc) (ls : Array Slot), (vT 4).toInt = (vT 4).toInt → va_P (dC, dI) vwCl (List.flatten [(wTape qT k readT vT tz1068 aT)] ++ List.flatten ([] : List va_W)) H → va_D A (List.flatten [(wTape qT k readT vT tz1068 aT)] ++ List.flatten ([] : List va_W)) → va_S A s.heap H locs → lv_has ls 1 [(0, .ref (qT 0))] → W p l e (headSpec wk_c_X9_next ({ frames := 1, cells := 0, slots := 0, locals := 80 })).room s m ([.ref (qT 0)] : List Value).toArray below meth c H locs 0 0 Q (F0 m 39 ls []) := by
          intro H locs ls jz3144 hP hD hS hl
          refine lv_aload_n hx hb dX9_next_39 rfl (lv_at hl 0 rfl) ?_
          refine lv_dup hx hb dX9_next_40 rfl ?_
          refine va_get (D := (dC, dI)) (ci := 9) (v := .int (tz1068 1)) (C := RX9) (T := TX9) (N := 10) hx hb hts (fun w h => List.mem_cons_of_mem _ (List.mem_append_right _ (List.mem_append_left _ h))) hown hK hP 0 rfl rfl 5 (by decide) (hts (.fieldLink RX9 35 "SagMemory$Tape" "at" "I") (wl_mem 0 rfl)) (fun _ h9 => h9) rfl dX9_next_41 ?_
          refine lv_iconst (v := 1) hx hb dX9_next_44 (by decide) ?_
          refine lv_iadd hx hb dX9_next_45 ?_
          refine lv_topi (fun xz3145 exz3145 => ?_)
          have fxz3145 : xz3145.toInt = (tz1068 1).toInt + (1 : Int) := by rw [exz3145]; exact fb_addI (x := (tz1068 1)) (y := (1 : Int32)) (by show -2147483648 ≤ (tz1068 1).toInt + (1 : Int); omega) (by show (tz1068 1).toInt + (1 : Int) < 2147483648; omega)
          refine va_put (D := (dC, dI)) (ci := 9) (v := .int xz3145) (ty := .int) (C := RX9) (T := TX9) (N := 10) hx hb hts (fun w h => List.mem_cons_of_mem _ (List.mem_append_right _ (List.mem_append_left _ h))) tyX9 tyX9_ok nmX9 hown hK hP hD hS 0 rfl rfl 5 (by decide) (hts (.fieldLink RX9 35 "SagMemory$Tape" "at" "I") (wl_mem 0 rfl)) (fun _ h9 => h9) rfl (by decide +kernel) rfl rfl (Nat.le_of_ble_eq_true rfl) dX9_next_46 (fun H locs hP hD hS => ?_)
          have hP : va_P (dC, dI) vwCl (List.flatten [(wTape qT k readT vT (va_up tz1068 1 xz3145) aT)] ++ List.flatten ([] : List va_W)) H := hP
          have hD : va_D A (List.flatten [(wTape qT k readT vT (va_up tz1068 1 xz3145) aT)] ++ List.flatten ([] : List va_W)) := hD
          refine lv_goto (tgt := 0) hx hb dX9_next_49 (by decide) ?_
          exact ih0 H locs ls (va_up tz1068 1 xz3145) (by show (700 - xz3145.toInt).toNat < n9_0; omega) (rg_up htz1068 (by show 0 ≤ xz3145.toInt ∧ xz3145.toInt ≤ 700; omega)) (by show (vT 4).toInt = (vT 4).toInt; omega) hP hD hS (lv_sub hl [0] rfl)
        refine lv_icmp_eq (tgt := 39) hx hb dX9_next_22 (by decide) (fun cz3146 => ?_) (fun cz3146 => ?_)
        · skip
          have zz3147 : xz3135.toInt = (32 : Int) := zi_eq.mp cz3146
          exact ct39_kz3143 H locs ls  (by show (vT 4).toInt = (vT 4).toInt; omega) hP hD hS (lv_sub hl [0] rfl)
        · skip
          have zz3148 : ¬ xz3135.toInt = (32 : Int) := fun h9 => cz3146 (zi_eq.mpr h9)
          refine lv_aload_n hx hb dX9_next_25 rfl (lv_at hl 0 rfl) ?_
          refine va_get (D := (dC, dI)) (ci := 9) (v := .ref (qT 1)) (C := RX9) (T := TX9) (N := 10) hx hb hts (fun w h => List.mem_cons_of_mem _ (List.mem_append_right _ (List.mem_append_left _ h))) hown hK hP 0 rfl rfl 0 (by decide) (hts (.fieldLink RX9 9 "SagMemory$Tape" "bytes" "[I") (wl_mem 2 rfl)) (fun _ h9 => h9) rfl dX9_next_26 ?_
          refine lv_aload_n hx hb dX9_next_29 rfl (lv_at hl 0 rfl) ?_
          refine va_get (D := (dC, dI)) (ci := 9) (v := .int (tz1068 1)) (C := RX9) (T := TX9) (N := 10) hx hb hts (fun w h => List.mem_cons_of_mem _ (List.mem_append_right _ (List.mem_append_left _ h))) hown hK hP 0 rfl rfl 5 (by decide) (hts (.fieldLink RX9 35 "SagMemory$Tape" "at" "I") (wl_mem 0 rfl)) (fun _ h9 => h9) rfl dX9_next_30 ?_
          refine va_iald hx hb hK hP 1 0 rfl rfl (vp_in_iff.mpr ⟨by omega, by omega⟩) dX9_next_33 ?_
          refine lv_topi (fun xz3149 exz3149 => ?_)
          refine lv_bipush (v := 10) hx hb dX9_next_34 (by decide) ?_
          refine lv_icmp_ne (tgt := 52) hx hb dX9_next_36 (by decide) (fun cz3150 => ?_) (fun cz3150 => ?_)
          · skip
            have zz3151 : ¬ xz3149.toInt = (10 : Int) := fun h9 => cz3150 (zi_eq.mpr h9)
            exact ct52_kz2112 H locs ls  (by show (vT 4).toInt = (vT 4).toInt; omega) hP hD hS (lv_sub hl [0] rfl)
          · skip
            have zz3152 : xz3149.toInt = (10 : Int) := zi_eq.mp cz3150
            exact ct39_kz3143 H locs ls  (by show (vT 4).toInt = (vT 4).toInt; omega) hP hD hS (lv_sub hl [0] rfl)
  exact lp0_kz1069 _ s.heap [] ls tT (Nat.lt_succ_self _) htT (by show (vT 4).toInt = (vT 4).toInt; omega) hP hD hS (lv_sub hl [0] rfl)
def wk_c_X9_isWord : List Cond := .code yX9_isWord cX9_isWord 3 (some .boolean) :: ([.fieldLink RX9 41 "SagMemory$Tape" "kind" "I", .fieldLink RX9 35 "SagMemory$Tape" "at" "I", .fieldLink RX9 161 "SagMemory$Tape" "start" "I", .methodLink RX9 164 yJ0_length_8abf5, .instanceMethod yJ0_length_8abf5, .selects RJ0 yJ0_length_8abf5 yJ0_length_8abf5, .initialized RJ0, .fieldLink RX9 26 "SagMemory$Tape" "length" "I", .fieldLink RX9 9 "SagMemory$Tape" "bytes" "[I", .methodLink RX9 169 yJ0_charAt_5068e, .instanceMethod yJ0_charAt_5068e, .selects RJ0 yJ0_charAt_5068e yJ0_charAt_5068e] ++ (wsX90 ++ (wk_c_J0_length_8abf5 ++ (wk_c_J0_charAt_5068e ++ []))))
theorem wkg_c_X9_isWord : wk_c_X9_isWord.all goodWord = true := by decide +kernel
set_option maxHeartbeats 4000000 in
set_option maxRecDepth 100000 in
theorem c_X9_isWord (l : Launch) (dC : Nat → ClassId) (dI : Nat → Nat → Nat) (k : Nat → ClassId) (adK adV ln : Nat → Nat) (by9 : Nat → Nat → Int32) (qT : Nat → Nat) (readT : Nat) (vT : Nat → Int32) (tT : Nat → Int32) (aT : Nat → Nat → Int32) (i2 : Nat) (hi2 : i2 < 14) (htT : Rg 0 700 tT) : Met l yX9_isWord wk_c_X9_isWord ({ frames := 4, cells := 0, slots := 0, locals := 85 }) (va_Pc [.ref (qT 0), .ref (adK i2)] (fun U => va_P (dC, dI) vwCl (List.flatten [(wTape qT k readT vT tT aT)]) U.heap ∧ va_K (dC, dI) vwCl (tK k) U ∧ Zt adK adV ln by9 (fun _ => False) U U.heap)) (vp_Si (fun r : Int32 => (r.toInt = 0 ∨ r.toInt = 1))) 0 0 (fun _ => False) := by
  refine Met.ofW (cc := cX9_isWord) (maxL := 3) (ret := (some .boolean)) (by decide) rfl ?_
  intro p e s m args below meth c s₁ B hml hv
  obtain ⟨rfl, hP, hK, hZ⟩ := hv
  have hx := B.exec
  have hb := B.bytes
  have hr := B.returns
  have hts := atoms_spec (ws := wk_c_X9_isWord) B.pre
  have hown : s.vm.findClass RX9 = some m.cls := findClass_of_methodNamed B.named
  have hlocks := B.notSynchronized
  have hS : va_S (fun _ => False) s.heap s.heap [] := va_S.rf
  have hP : va_P (dC, dI) vwCl (List.flatten [(wTape qT k readT vT tT aT)]) s.heap := hP
  have hl := lv_entry ([.ref (qT 0), .ref (adK i2)]) (n := 3) (Nat.le_of_ble_eq_true rfl)
  rw [lg_entry_eq]
  generalize (lg_sl ([.ref (qT 0), .ref (adK i2)]) ++ List.replicate (3 - (lg_sl ([.ref (qT 0), .ref (adK i2)])).length) Slot.unset).toArray = ls at hl ⊢
  have hl : lv_has ls 3 [(0, .ref (qT 0)), (1, .ref (adK i2))] := hl
  refine w_gen (fun Q hQ => ?_)
  refine lv_aload_n hx hb dX9_isWord_0 rfl (lv_at hl 0 rfl) ?_
  refine va_get (D := (dC, dI)) (ci := 9) (v := .int (vT 2)) (C := RX9) (T := TX9) (N := 10) hx hb hts (fun w h => List.mem_cons_of_mem _ (List.mem_append_right _ (List.mem_append_left _ h))) hown hK hP 0 rfl rfl 6 (by decide) (hts (.fieldLink RX9 41 "SagMemory$Tape" "kind" "I") (wl_mem 0 rfl)) (fun _ h9 => h9) rfl dX9_isWord_1 ?_
  refine lv_iconst (v := 1) hx hb dX9_isWord_4 (by decide) ?_
  refine lv_icmp_ne (tgt := 24) hx hb dX9_isWord_5 (by decide) (fun cz1 => ?_) (fun cz1 => ?_)
  · skip
    have zz2 : ¬ (vT 2).toInt = (1 : Int) := fun h9 => cz1 (zi_eq.mpr h9)
    refine lv_iconst (v := 0) hx hb dX9_isWord_24 (by decide) ?_
    rw [hQ]
    exact W.zret (v := (0 : Int32)) hx hb hr rfl (fun t ht hW => ⟨(0 : Int32), rfl, (by show (0 : Int) = 0 ∨ (0 : Int) = 1; omega), ht⟩) (fun _ h => absurd h List.not_mem_nil) dX9_isWord_25
  · skip
    have zz3 : (vT 2).toInt = (1 : Int) := zi_eq.mp cz1
    refine lv_aload_n hx hb dX9_isWord_8 rfl (lv_at hl 0 rfl) ?_
    refine va_get (D := (dC, dI)) (ci := 9) (v := .int (tT 1)) (C := RX9) (T := TX9) (N := 10) hx hb hts (fun w h => List.mem_cons_of_mem _ (List.mem_append_right _ (List.mem_append_left _ h))) hown hK hP 0 rfl rfl 5 (by decide) (hts (.fieldLink RX9 35 "SagMemory$Tape" "at" "I") (wl_mem 1 rfl)) (fun _ h9 => h9) rfl dX9_isWord_9 ?_
    have bz4 := htT 1
    refine lv_aload_n hx hb dX9_isWord_12 rfl (lv_at hl 0 rfl) ?_
    refine va_get (D := (dC, dI)) (ci := 9) (v := .int (tT 2)) (C := RX9) (T := TX9) (N := 10) hx hb hts (fun w h => List.mem_cons_of_mem _ (List.mem_append_right _ (List.mem_append_left _ h))) hown hK hP 0 rfl rfl 7 (by decide) (hts (.fieldLink RX9 161 "SagMemory$Tape" "start" "I") (wl_mem 2 rfl)) (fun _ h9 => h9) rfl dX9_isWord_13 ?_
    have bz5 := htT 2
    refine lv_isub hx hb dX9_isWord_16 ?_
    refine lv_topi (fun xz6 exz6 => ?_)
    have fxz6 : xz6.toInt = (tT 1).toInt - (tT 2).toInt := by rw [exz6]; exact fb_subI (x := (tT 1)) (y := (tT 2)) (by show -2147483648 ≤ (tT 1).toInt - (tT 2).toInt; omega) (by show (tT 1).toInt - (tT 2).toInt < 2147483648; omega)
    refine lv_aload_n hx hb dX9_isWord_17 rfl (lv_at hl 1 rfl) ?_
    have hPc : va_P (dC, dI) vwCl (List.flatten ([] : List va_W)) s.heap := fun k q h => by simp at h
    refine vp_callSi (va_Run.run (va_runV (As := []) (rest := [.int xz6]) ⟨hx, hb, hml, hown, hts⟩ (c_J0_length_8abf5 l dC dI k adK adV ln by9 i2 hi2) (cwV 0 hts (gk_V (wl_mem 3 rfl) (wl_mem 4 rfl) (wl_mem 5 rfl) (wl_mem 6 rfl) (fun w h => List.mem_cons_of_mem _ (List.mem_append_right _ (List.mem_append_right _ (List.mem_append_left _ h)))) wkg_c_J0_length_8abf5) rfl rfl rfl (by decide +kernel) ⟨Nat.le_of_ble_eq_true rfl, Nat.le_of_ble_eq_true rfl⟩) ⟨fun a U g mk q => by obtain ⟨q0, qP, qK, qZ⟩ := q; exact ⟨q0, qP, va_K.moved (u := U) (U := U.calling g mk a) (Vm.Alike.refl U.vm) qK, qZ.calling⟩, zt_recv hZ hi2 hS, fun U hU hW => ⟨rfl, by rw [hU]; exact hPc, va_K.moved hW.alike hK, hZ.pass hS hU hW (fun _ h => h.elim)⟩⟩ rfl rfl hl.1 rfl (lv_room (Nat.le_of_ble_eq_true rfl)) dX9_isWord_18 ⟨Nat.le_of_ble_eq_true rfl, Nat.le_of_ble_eq_true rfl⟩)) (fun rz8 gz7 => ?_)
    clear hPc
    obtain ⟨pz9, pz10⟩ := gz7
    have pz9 : rz8.toInt = (ln i2 : Int) := pz9
    have pz10 : 0 ≤ rz8.toInt ∧ rz8.toInt ≤ 99 := pz10
    refine lv_icmp_eq (tgt := 26) hx hb dX9_isWord_21 (by decide) (fun cz11 => ?_) (fun cz11 => ?_)
    · skip
      have zz12 : xz6.toInt = rz8.toInt := zi_eq.mp cz11
      refine lv_iconst (v := 0) hx hb dX9_isWord_26 (by decide) ?_
      refine lv_istore_n (lv' := [(2, .int 0), (0, .ref (qT 0)), (1, .ref (adK i2))]) hx hb dX9_isWord_27 rfl hl (by decide) rfl (fun ls hl => ?_)
      have lp28_kz40 : ∀ (n9_28 : Nat) (ls : Array Slot) (xz39 : Int32), (2147483647 - xz39.toInt).toNat < n9_28 → 0 ≤ xz39.toInt → lv_has ls 3 [(0, .ref (qT 0)), (1, .ref (adK i2)), (2, .int xz39)] → W p l e (headSpec wk_c_X9_isWord ({ frames := 4, cells := 0, slots := 0, locals := 85 })).room s m ([.ref (qT 0), .ref (adK i2)] : List Value).toArray below meth c s.heap [] 0 0 Q (F0 m 28 ls []) := by
        intro n9_28
        induction n9_28 with
        | zero => intro ls xz39 hm; exact absurd hm (Nat.not_lt_zero _)
        | succ n9_28 ih28 =>
          intro ls xz39 hm28 jz41 hl
          refine lv_iload_n hx hb dX9_isWord_28 rfl (lv_at hl 2 rfl) ?_
          refine lv_aload_n hx hb dX9_isWord_29 rfl (lv_at hl 1 rfl) ?_
          have hPc : va_P (dC, dI) vwCl (List.flatten ([] : List va_W)) s.heap := fun k q h => by simp at h
          refine vp_callSi (va_Run.run (va_runV (As := []) (rest := [.int xz39]) ⟨hx, hb, hml, hown, hts⟩ (c_J0_length_8abf5 l dC dI k adK adV ln by9 i2 hi2) (cwV 0 hts (gk_V (wl_mem 3 rfl) (wl_mem 4 rfl) (wl_mem 5 rfl) (wl_mem 6 rfl) (fun w h => List.mem_cons_of_mem _ (List.mem_append_right _ (List.mem_append_right _ (List.mem_append_left _ h)))) wkg_c_J0_length_8abf5) rfl rfl rfl (by decide +kernel) ⟨Nat.le_of_ble_eq_true rfl, Nat.le_of_ble_eq_true rfl⟩) ⟨fun a U g mk q => by obtain ⟨q0, qP, qK, qZ⟩ := q; exact ⟨q0, qP, va_K.moved (u := U) (U := U.calling g mk a) (Vm.Alike.refl U.vm) qK, qZ.calling⟩, zt_recv hZ hi2 hS, fun U hU hW => ⟨rfl, by rw [hU]; exact hPc, va_K.moved hW.alike hK, hZ.pass hS hU hW (fun _ h => h.elim)⟩⟩ rfl rfl hl.1 rfl (lv_room (Nat.le_of_ble_eq_true rfl)) dX9_isWord_30 ⟨Nat.le_of_ble_eq_true rfl, Nat.le_of_ble_eq_true rfl⟩)) (fun rz43 gz42 => ?_)
          clear hPc
          obtain ⟨pz44, pz45⟩ := gz42
          have pz44 : rz43.toInt = (ln i2 : Int) := pz44
          have pz45 : 0 ≤ rz43.toInt ∧ rz43.toInt ≤ 99 := pz45
          refine lv_icmp_ge (tgt := 76) hx hb dX9_isWord_33 (by decide) (fun cz46 => ?_) (fun cz46 => ?_)
          · skip
            have bz47 := fb_rng xz39
            have zz48 : rz43.toInt ≤ xz39.toInt := zi_le.mp cz46
            refine lv_iconst (v := 1) hx hb dX9_isWord_76 (by decide) ?_
            rw [hQ]
            exact W.zret (v := (1 : Int32)) hx hb hr rfl (fun t ht hW => ⟨(1 : Int32), rfl, (by show (1 : Int) = 0 ∨ (1 : Int) = 1; omega), ht⟩) (fun _ h => absurd h List.not_mem_nil) dX9_isWord_77
          · skip
            have bz49 := fb_rng xz39
            have zz50 : ¬ rz43.toInt ≤ xz39.toInt := fun h9 => cz46 (zi_le.mpr h9)
            refine lv_aload_n hx hb dX9_isWord_36 rfl (lv_at hl 0 rfl) ?_
            refine va_get (D := (dC, dI)) (ci := 9) (v := .int (tT 2)) (C := RX9) (T := TX9) (N := 10) hx hb hts (fun w h => List.mem_cons_of_mem _ (List.mem_append_right _ (List.mem_append_left _ h))) hown hK hP 0 rfl rfl 7 (by decide) (hts (.fieldLink RX9 161 "SagMemory$Tape" "start" "I") (wl_mem 2 rfl)) (fun _ h9 => h9) rfl dX9_isWord_37 ?_
            refine lv_iload_n hx hb dX9_isWord_40 rfl (lv_at hl 2 rfl) ?_
            refine lv_iadd hx hb dX9_isWord_41 ?_
            refine lv_topi (fun xz51 exz51 => ?_)
            have fxz51 : xz51.toInt = (tT 2).toInt + xz39.toInt := by rw [exz51]; exact fb_addI (x := (tT 2)) (y := xz39) (by show -2147483648 ≤ (tT 2).toInt + xz39.toInt; omega) (by show (tT 2).toInt + xz39.toInt < 2147483648; omega)
            refine lv_aload_n hx hb dX9_isWord_42 rfl (lv_at hl 0 rfl) ?_
            refine va_get (D := (dC, dI)) (ci := 9) (v := .int (tT 0)) (C := RX9) (T := TX9) (N := 10) hx hb hts (fun w h => List.mem_cons_of_mem _ (List.mem_append_right _ (List.mem_append_left _ h))) hown hK hP 0 rfl rfl 2 (by decide) (hts (.fieldLink RX9 26 "SagMemory$Tape" "length" "I") (wl_mem 7 rfl)) (fun _ h9 => h9) rfl dX9_isWord_43 ?_
            have bz52 := htT 0
            refine lv_icmp_ge (tgt := 76) hx hb dX9_isWord_46 (by decide) (fun cz53 => ?_) (fun cz53 => ?_)
            · skip
              have zz54 : (tT 0).toInt ≤ xz51.toInt := zi_le.mp cz53
              refine lv_iconst (v := 1) hx hb dX9_isWord_76 (by decide) ?_
              rw [hQ]
              exact W.zret (v := (1 : Int32)) hx hb hr rfl (fun t ht hW => ⟨(1 : Int32), rfl, (by show (1 : Int) = 0 ∨ (1 : Int) = 1; omega), ht⟩) (fun _ h => absurd h List.not_mem_nil) dX9_isWord_77
            · skip
              have zz55 : ¬ (tT 0).toInt ≤ xz51.toInt := fun h9 => cz53 (zi_le.mpr h9)
              refine lv_aload_n hx hb dX9_isWord_49 rfl (lv_at hl 0 rfl) ?_
              refine va_get (D := (dC, dI)) (ci := 9) (v := .ref (qT 1)) (C := RX9) (T := TX9) (N := 10) hx hb hts (fun w h => List.mem_cons_of_mem _ (List.mem_append_right _ (List.mem_append_left _ h))) hown hK hP 0 rfl rfl 0 (by decide) (hts (.fieldLink RX9 9 "SagMemory$Tape" "bytes" "[I") (wl_mem 8 rfl)) (fun _ h9 => h9) rfl dX9_isWord_50 ?_
              refine lv_aload_n hx hb dX9_isWord_53 rfl (lv_at hl 0 rfl) ?_
              refine va_get (D := (dC, dI)) (ci := 9) (v := .int (tT 2)) (C := RX9) (T := TX9) (N := 10) hx hb hts (fun w h => List.mem_cons_of_mem _ (List.mem_append_right _ (List.mem_append_left _ h))) hown hK hP 0 rfl rfl 7 (by decide) (hts (.fieldLink RX9 161 "SagMemory$Tape" "start" "I") (wl_mem 2 rfl)) (fun _ h9 => h9) rfl dX9_isWord_54 ?_
              refine lv_iload_n hx hb dX9_isWord_57 rfl (lv_at hl 2 rfl) ?_
              refine lv_iadd hx hb dX9_isWord_58 ?_
              refine lv_topi (fun xz56 exz56 => ?_)
              have fxz56 : xz56.toInt = (tT 2).toInt + xz39.toInt := by rw [exz56]; exact fb_addI (x := (tT 2)) (y := xz39) (by show -2147483648 ≤ (tT 2).toInt + xz39.toInt; omega) (by show (tT 2).toInt + xz39.toInt < 2147483648; omega)
              refine va_iald hx hb hK hP 1 0 rfl rfl (vp_in_iff.mpr ⟨by omega, by omega⟩) dX9_isWord_59 ?_
              refine lv_topi (fun xz57 exz57 => ?_)
              refine lv_aload_n hx hb dX9_isWord_60 rfl (lv_at hl 1 rfl) ?_
              refine lv_iload_n hx hb dX9_isWord_61 rfl (lv_at hl 2 rfl) ?_
              have hPc : va_P (dC, dI) vwCl (List.flatten ([] : List va_W)) s.heap := fun k q h => by simp at h
              refine vp_callSi (va_Run.run (va_runV (As := [.int xz39]) (rest := [.int xz57]) ⟨hx, hb, hml, hown, hts⟩ (c_J0_charAt_5068e l dC dI k adK adV ln by9 xz39 i2 hi2 (by show 0 ≤ xz39.toInt ∧ xz39.toInt < (ln i2 : Int); omega)) (cwV 1 hts (gk_V (wl_mem 9 rfl) (wl_mem 10 rfl) (wl_mem 11 rfl) (wl_mem 6 rfl) (fun w h => List.mem_cons_of_mem _ (List.mem_append_right _ (List.mem_append_right _ (List.mem_append_right _ (List.mem_append_left _ h))))) wkg_c_J0_charAt_5068e) rfl rfl rfl (by decide +kernel) ⟨Nat.le_of_ble_eq_true rfl, Nat.le_of_ble_eq_true rfl⟩) ⟨fun a U g mk q => by obtain ⟨q0, qP, qK, qZ⟩ := q; exact ⟨q0, qP, va_K.moved (u := U) (U := U.calling g mk a) (Vm.Alike.refl U.vm) qK, qZ.calling⟩, zt_recv hZ hi2 hS, fun U hU hW => ⟨rfl, by rw [hU]; exact hPc, va_K.moved hW.alike hK, hZ.pass hS hU hW (fun _ h => h.elim)⟩⟩ rfl rfl hl.1 rfl (lv_room (Nat.le_of_ble_eq_true rfl)) dX9_isWord_62 ⟨Nat.le_of_ble_eq_true rfl, Nat.le_of_ble_eq_true rfl⟩)) (fun rz59 gz58 => ?_)
              clear hPc
              have pz60 := gz58
              have pz60 : 0 ≤ rz59.toInt ∧ rz59.toInt ≤ 65535 := pz60
              refine lv_icmp_eq (tgt := 70) hx hb dX9_isWord_65 (by decide) (fun cz61 => ?_) (fun cz61 => ?_)
              · skip
                have zz62 : xz57.toInt = rz59.toInt := zi_eq.mp cz61
                obtain ⟨xz63, exz63⟩ : ∃ y : Int32, y = xz39 + Int32.ofInt (1) := ⟨_, rfl⟩
                have fxz63 : xz63.toInt = xz39.toInt + (1) := by rw [exz63]; exact fb_addI (y := Int32.ofInt (1)) (by show -2147483648 ≤ xz39.toInt + (1); omega) (by show xz39.toInt + (1) < 2147483648; omega)
                refine lv_iinc (v := xz63) (lv' := [(2, .int xz63), (0, .ref (qT 0)), (1, .ref (adK i2))]) hx hb dX9_isWord_70 hl (k := 2) rfl exz63.symm (by decide) rfl (fun ls hl => ?_)
                refine lv_goto (tgt := 28) hx hb dX9_isWord_73 (by decide) ?_
                exact ih28 ls xz63 (by show (2147483647 - xz63.toInt).toNat < n9_28; omega) (by show 0 ≤ xz63.toInt; omega) (lv_sub hl [1, 2, 0] rfl)
              · skip
                have zz64 : ¬ xz57.toInt = rz59.toInt := fun h9 => cz61 (zi_eq.mpr h9)
                refine lv_iconst (v := 0) hx hb dX9_isWord_68 (by decide) ?_
                rw [hQ]
                exact W.zret (v := (0 : Int32)) hx hb hr rfl (fun t ht hW => ⟨(0 : Int32), rfl, (by show (0 : Int) = 0 ∨ (0 : Int) = 1; omega), ht⟩) (fun _ h => absurd h List.not_mem_nil) dX9_isWord_69
      exact lp28_kz40 _ ls (0 : Int32) (Nat.lt_succ_self _) (by show 0 ≤ (0 : Int); omega) (lv_sub hl [1, 2, 0] rfl)
    · skip
      have zz65 : ¬ xz6.toInt = rz8.toInt := fun h9 => cz11 (zi_eq.mpr h9)
      refine lv_iconst (v := 0) hx hb dX9_isWord_24 (by decide) ?_
      rw [hQ]
      exact W.zret (v := (0 : Int32)) hx hb hr rfl (fun t ht hW => ⟨(0 : Int32), rfl, (by show (0 : Int) = 0 ∨ (0 : Int) = 1; omega), ht⟩) (fun _ h => absurd h List.not_mem_nil) dX9_isWord_25
def wk_c_X9_expect : List Cond := .code yX9_expect cX9_expect 2 (some .boolean) :: ([.methodLink RX9 65 yX9_isWord, .instanceMethod yX9_isWord, .selects RX9 yX9_isWord yX9_isWord, .initialized RX9, .methodLink RX9 38 yX9_next, .instanceMethod yX9_next, .selects RX9 yX9_next yX9_next, .methodLink RX9 86 yX9_fail, .instanceMethod yX9_fail, .selects RX9 yX9_fail yX9_fail] ++ (wk_c_X9_isWord ++ (wk_c_X9_next ++ (wk_c_X9_fail ++ []))))
theorem wkg_c_X9_expect : wk_c_X9_expect.all goodWord = true := by decide +kernel
set_option maxHeartbeats 4000000 in
set_option maxRecDepth 100000 in
theorem c_X9_expect (l : Launch) (dC : Nat → ClassId) (dI : Nat → Nat → Nat) (k : Nat → ClassId) (sz : Nat) (adK adV ln : Nat → Nat) (by9 : Nat → Nat → Int32) (qT : Nat → Nat) (readT : Nat) (vT : Nat → Int32) (tT : Nat → Int32) (aT : Nat → Nat → Int32) (i2 : Nat) (hi2 : i2 < 14) (htT : Rg 0 700 tT) : Met l yX9_expect wk_c_X9_expect ({ frames := 5, cells := 0, slots := 0, locals := 107 }) (va_Pc [.ref (qT 0), .ref (adK i2)] (fun U => U.heap.size = sz ∧ va_P (dC, dI) vwCl (List.flatten [(wTape qT k readT vT tT aT)] ++ List.flatten ([] : List va_W)) U.heap ∧ va_K (dC, dI) vwCl (tK k) U ∧ va_D (fun _ => True) (List.flatten [(wTape qT k readT vT tT aT)] ++ List.flatten ([] : List va_W)) ∧ Zt adK adV ln by9 (va_A (List.flatten [(wTape qT k readT vT tT aT)] ++ List.flatten ([] : List va_W)) sz) U U.heap)) (va_Qi (fun (r : Int32) (_ : Unit) => (r.toInt = 0 ∨ r.toInt = 1)) (fun (_ : Unit) (t : State) => ∃ (vT' : Nat → Int32) (tT' : Nat → Int32) (aT' : Nat → Nat → Int32), Rg 0 700 tT' ∧ va_P (dC, dI) vwCl (List.flatten [(wTape qT k readT vT' tT' aT')] ++ List.flatten ([] : List va_W)) t.heap) (va_A (List.flatten [(wTape qT k readT vT tT aT)] ++ List.flatten ([] : List va_W)) sz)) 0 0 (va_A (List.flatten [(wTape qT k readT vT tT aT)] ++ List.flatten ([] : List va_W)) sz) := by
  refine Met.ofW (cc := cX9_expect) (maxL := 2) (ret := (some .boolean)) (by decide) rfl ?_
  intro p e s m args below meth c s₁ B hml hv
  obtain ⟨rfl, hsz, hP, hK, hD0, hZ⟩ := hv
  have hx := B.exec
  have hb := B.bytes
  have hr := B.returns
  have hts := atoms_spec (ws := wk_c_X9_expect) B.pre
  have hown : s.vm.findClass RX9 = some m.cls := findClass_of_methodNamed B.named
  have hlocks := B.notSynchronized
  subst hsz
  have hD := hD0.self (sz := s.heap.size)
  generalize hAe : va_A (List.flatten [(wTape qT k readT vT tT aT)] ++ List.flatten ([] : List va_W)) s.heap.size = A at hD hZ ⊢
  have hA : ∀ q : Nat, s.heap.size ≤ q → A q := fun q h => by rw [← hAe]; exact Or.inr h
  have hS : va_S A s.heap s.heap [] := va_S.rf
  have hP : va_P (dC, dI) vwCl (List.flatten [(wTape qT k readT vT tT aT)] ++ List.flatten ([] : List va_W)) s.heap := hP
  have hl := lv_entry ([.ref (qT 0), .ref (adK i2)]) (n := 2) (Nat.le_of_ble_eq_true rfl)
  rw [lg_entry_eq]
  generalize (lg_sl ([.ref (qT 0), .ref (adK i2)]) ++ List.replicate (2 - (lg_sl ([.ref (qT 0), .ref (adK i2)])).length) Slot.unset).toArray = ls at hl ⊢
  have hl : lv_has ls 2 [(0, .ref (qT 0)), (1, .ref (adK i2))] := hl
  refine w_gen (fun Q hQ => ?_)
  refine lv_aload_n hx hb dX9_expect_0 rfl (lv_at hl 0 rfl) ?_
  refine lv_aload_n hx hb dX9_expect_1 rfl (lv_at hl 1 rfl) ?_
  have hPc := hP.sub (ws' := (List.flatten [(wTape qT k readT vT tT aT)])) [0, 1] rfl
  refine vp_callSi (va_Run.run (va_runV (As := [.ref (adK i2)]) (rest := []) ⟨hx, hb, hml, hown, hts⟩ (c_X9_isWord l dC dI k adK adV ln by9 qT readT vT tT aT i2 hi2 htT) (cwV 1 hts (gk_V (wl_mem 0 rfl) (wl_mem 1 rfl) (wl_mem 2 rfl) (wl_mem 3 rfl) (fun w h => List.mem_cons_of_mem _ (List.mem_append_right _ (List.mem_append_left _ h))) wkg_c_X9_isWord) rfl rfl rfl (by decide +kernel) ⟨Nat.le_of_ble_eq_true rfl, Nat.le_of_ble_eq_true rfl⟩) ⟨fun a U g mk q => by obtain ⟨q0, qP, qK, qZ⟩ := q; exact ⟨q0, qP, va_K.moved (u := U) (U := U.calling g mk a) (Vm.Alike.refl U.vm) qK, qZ.calling⟩, va_recv hK hPc (ci := 9) (q0 := 0) rfl rfl, fun U hU hW => ⟨rfl, by rw [hU]; exact hPc, va_K.moved hW.alike hK, hZ.pass hS hU hW (fun _ h => h.elim)⟩⟩ rfl rfl hl.1 rfl (lv_room (Nat.le_of_ble_eq_true rfl)) dX9_expect_2 ⟨Nat.le_of_ble_eq_true rfl, Nat.le_of_ble_eq_true rfl⟩)) (fun rz2 gz1 => ?_)
  clear hPc
  have pz3 := gz1
  have pz3 : rz2.toInt = 0 ∨ rz2.toInt = 1 := pz3
  refine lv_if_ne (tgt := 14) hx hb dX9_expect_5 (by decide) (fun cz4 => ?_) (fun cz4 => ?_)
  · skip
    have zz5 : ¬ rz2.toInt = (0 : Int) := fun h9 => cz4 (zi_eq.mpr h9)
    refine lv_aload_n hx hb dX9_expect_14 rfl (lv_at hl 0 rfl) ?_
    have hPc := hP
    have hC : [0, 1].map (fun i => (List.flatten [(wTape qT k readT vT tT aT)] ++ List.flatten ([] : List va_W))[i]?) = (List.flatten [(wTape qT k readT vT tT aT)] ++ List.flatten ([] : List va_W)).map some := rfl
    have hDc := hD.sub [0, 1] (by decide) hC
    have hFc := va_free hD hS hA [0, 1] hC
    refine va_callv (va_runV (As := []) (rest := []) ⟨hx, hb, hml, hown, hts⟩ (c_X9_next l dC dI k s.heap.size qT readT vT tT aT htT) (cwV 0 hts (gk_V (wl_mem 4 rfl) (wl_mem 5 rfl) (wl_mem 6 rfl) (wl_mem 3 rfl) (fun w h => List.mem_cons_of_mem _ (List.mem_append_right _ (List.mem_append_right _ (List.mem_append_left _ h)))) wkg_c_X9_next) rfl rfl rfl (by decide +kernel) ⟨Nat.le_of_ble_eq_true rfl, Nat.le_of_ble_eq_true rfl⟩) ⟨fun a U g mk q => by obtain ⟨q0, q1, qP, qK, qD⟩ := q; exact ⟨q0, q1, qP, va_K.moved (u := U) (U := U.calling g mk a) (Vm.Alike.refl U.vm) qK, qD⟩, va_recv hK hPc (ci := 9) (q0 := 0) rfl rfl, fun U hU hW => ⟨rfl, by rw [hU], by rw [hU]; exact hPc, va_K.moved hW.alike hK, hDc.weaken (fun _ _ _ _ => trivial)⟩⟩ rfl rfl hl.1 rfl (lv_room (Nat.le_of_ble_eq_true rfl)) dX9_expect_15 ⟨Nat.le_of_ble_eq_true rfl, Nat.le_of_ble_eq_true rfl⟩) hS (fun q _ h => hFc q h) hFc (fun u t H1 locs ht hvm gz6 hB hz1 hk1 hS => ?_)
    obtain ⟨vz8, tz9, az10, htz9, pz11, hP1⟩ := hB
    rw [ht] at hP1
    obtain ⟨hP, hD⟩ := w_callR hP hD hk1 hP1 [0] rfl rfl (fun _ h => absurd h List.not_mem_nil) rfl [some 0] rfl rfl
    clear hPc hC hDc hFc hk1 hP1
    generalize H1 = H at hP hS ⊢
    have hP : va_P (dC, dI) vwCl (List.flatten [(wTape qT k readT vz8 tz9 az10)] ++ List.flatten ([] : List va_W)) H := hP
    have hD : va_D A (List.flatten [(wTape qT k readT vz8 tz9 az10)] ++ List.flatten ([] : List va_W)) := hD
    refine W.widen (k := 0) (n := 0) (Nat.le_refl 0) (Nat.le_refl 0) ?_
    have pz11 : (vz8 4).toInt = (vT 4).toInt := pz11
    refine lv_iconst (v := 1) hx hb dX9_expect_18 (by decide) ?_
    rw [hQ]
    exact W.zret (v := (1 : Int32)) hx hb hr rfl (fun t ht hW => ⟨⟨(1 : Int32), (), rfl, (by show (1 : Int) = 0 ∨ (1 : Int) = 1; omega), vz8, tz9, az10, htz9, by rw [ht]; exact hP⟩, hS.F ht⟩) hS.2.2 dX9_expect_19
  · skip
    have zz12 : rz2.toInt = (0 : Int) := zi_eq.mp cz4
    refine lv_aload_n hx hb dX9_expect_8 rfl (lv_at hl 0 rfl) ?_
    refine lv_iconst (v := 1) hx hb dX9_expect_9 (by decide) ?_
    have hPc := hP
    have hC : [0, 1].map (fun i => (List.flatten [(wTape qT k readT vT tT aT)] ++ List.flatten ([] : List va_W))[i]?) = (List.flatten [(wTape qT k readT vT tT aT)] ++ List.flatten ([] : List va_W)).map some := rfl
    have hDc := hD.sub [0, 1] (by decide) hC
    have hFc := va_free hD hS hA [0, 1] hC
    refine va_calli (va_runV (As := [.int 1]) (rest := []) ⟨hx, hb, hml, hown, hts⟩ (c_X9_fail l dC dI k s.heap.size qT readT vT tT aT (1 : Int32) htT) (cwV 1 hts (gk_V (wl_mem 7 rfl) (wl_mem 8 rfl) (wl_mem 9 rfl) (wl_mem 3 rfl) (fun w h => List.mem_cons_of_mem _ (List.mem_append_right _ (List.mem_append_right _ (List.mem_append_right _ (List.mem_append_left _ h))))) wkg_c_X9_fail) rfl rfl rfl (by decide +kernel) ⟨Nat.le_of_ble_eq_true rfl, Nat.le_of_ble_eq_true rfl⟩) ⟨fun a U g mk q => by obtain ⟨q0, q1, qP, qK, qD⟩ := q; exact ⟨q0, q1, qP, va_K.moved (u := U) (U := U.calling g mk a) (Vm.Alike.refl U.vm) qK, qD⟩, va_recv hK hPc (ci := 9) (q0 := 0) rfl rfl, fun U hU hW => ⟨rfl, by rw [hU], by rw [hU]; exact hPc, va_K.moved hW.alike hK, hDc.weaken (fun _ _ _ _ => trivial)⟩⟩ rfl rfl hl.1 rfl (lv_room (Nat.le_of_ble_eq_true rfl)) dX9_expect_10 ⟨Nat.le_of_ble_eq_true rfl, Nat.le_of_ble_eq_true rfl⟩) hS (fun q _ h => hFc q h) hFc (fun rz14 u t H1 locs ht hvm gz13 hB hz1 hk1 hS => ?_)
    obtain ⟨vz15, tz16, az17, htz16, hP1⟩ := hB
    rw [ht] at hP1
    obtain ⟨hP, hD⟩ := w_callR hP hD hk1 hP1 [0] rfl rfl (fun _ h => absurd h List.not_mem_nil) rfl [some 0] rfl rfl
    clear hPc hC hDc hFc hk1 hP1
    generalize H1 = H at hP hS ⊢
    have hP : va_P (dC, dI) vwCl (List.flatten [(wTape qT k readT vz15 tz16 az17)] ++ List.flatten ([] : List va_W)) H := hP
    have hD : va_D A (List.flatten [(wTape qT k readT vz15 tz16 az17)] ++ List.flatten ([] : List va_W)) := hD
    refine W.widen (k := 0) (n := 0) (Nat.le_refl 0) (Nat.le_refl 0) ?_
    obtain ⟨pz18, pz19⟩ := gz13
    have pz18 : rz14.toInt = 0 := pz18
    have pz19 : rz14.toInt = 0 ∨ rz14.toInt = 1 := pz19
    rw [hQ]
    exact W.zret (v := rz14) hx hb hr (zb_nar (by show rz14.toInt = 0 ∨ rz14.toInt = 1; omega)) (fun t ht hW => ⟨⟨rz14, (), rfl, (by show rz14.toInt = 0 ∨ rz14.toInt = 1; omega), vz15, tz16, az17, htz16, by rw [ht]; exact hP⟩, hS.F ht⟩) hS.2.2 dX9_expect_13
def wk_c_X9_expectNumber : List Cond := .code yX9_expectNumber cX9_expectNumber 3 (some .boolean) :: ([.fieldLink RX9 41 "SagMemory$Tape" "kind" "I", .fieldLink RX9 151 "SagMemory$Tape" "value" "I", .methodLink RX9 86 yX9_fail, .instanceMethod yX9_fail, .selects RX9 yX9_fail yX9_fail, .initialized RX9, .fieldLink RX9 96 "SagMemory$Tape" "number" "I", .methodLink RX9 38 yX9_next, .instanceMethod yX9_next, .selects RX9 yX9_next yX9_next] ++ (wsX90 ++ (wk_c_X9_fail ++ (wk_c_X9_next ++ []))))
theorem wkg_c_X9_expectNumber : wk_c_X9_expectNumber.all goodWord = true := by decide +kernel
set_option maxHeartbeats 4000000 in
set_option maxRecDepth 100000 in
theorem c_X9_expectNumber (l : Launch) (dC : Nat → ClassId) (dI : Nat → Nat → Nat) (k : Nat → ClassId) (sz : Nat) (qT : Nat → Nat) (readT : Nat) (vT : Nat → Int32) (tT : Nat → Int32) (aT : Nat → Nat → Int32) (p1 : Int32) (p2 : Int32) (htT : Rg 0 700 tT) : Met l yX9_expectNumber wk_c_X9_expectNumber ({ frames := 2, cells := 0, slots := 0, locals := 100 }) (va_Pc [.ref (qT 0), .int p1, .int p2] (fun U => U.heap.size = sz ∧ va_P (dC, dI) vwCl (List.flatten [(wTape qT k readT vT tT aT)] ++ List.flatten ([] : List va_W)) U.heap ∧ va_K (dC, dI) vwCl (tK k) U ∧ va_D (fun _ => True) (List.flatten [(wTape qT k readT vT tT aT)] ++ List.flatten ([] : List va_W)))) (va_Qi (fun (r : Int32) (u : Int32) => r = u) (fun (u : Int32) (t : State) => ∃ (vT' : Nat → Int32) (tT' : Nat → Int32) (aT' : Nat → Nat → Int32), Rg 0 700 tT' ∧ (u.toInt = 0 ∨ (p1.toInt ≤ (vT' 4).toInt ∧ (vT' 4).toInt ≤ p2.toInt)) ∧ (u.toInt = 0 ∨ u.toInt = 1) ∧ va_P (dC, dI) vwCl (List.flatten [(wTape qT k readT vT' tT' aT')] ++ List.flatten ([] : List va_W)) t.heap) (va_A (List.flatten [(wTape qT k readT vT tT aT)] ++ List.flatten ([] : List va_W)) sz)) 0 0 (va_A (List.flatten [(wTape qT k readT vT tT aT)] ++ List.flatten ([] : List va_W)) sz) := by
  refine Met.ofW (cc := cX9_expectNumber) (maxL := 3) (ret := (some .boolean)) (by decide) rfl ?_
  intro p e s m args below meth c s₁ B hml hv
  obtain ⟨rfl, hsz, hP, hK, hD0⟩ := hv
  have hx := B.exec
  have hb := B.bytes
  have hr := B.returns
  have hts := atoms_spec (ws := wk_c_X9_expectNumber) B.pre
  have hown : s.vm.findClass RX9 = some m.cls := findClass_of_methodNamed B.named
  have hlocks := B.notSynchronized
  subst hsz
  have hD := hD0.self (sz := s.heap.size)
  generalize hAe : va_A (List.flatten [(wTape qT k readT vT tT aT)] ++ List.flatten ([] : List va_W)) s.heap.size = A at hD ⊢
  have hA : ∀ q : Nat, s.heap.size ≤ q → A q := fun q h => by rw [← hAe]; exact Or.inr h
  have hS : va_S A s.heap s.heap [] := va_S.rf
  have hP : va_P (dC, dI) vwCl (List.flatten [(wTape qT k readT vT tT aT)] ++ List.flatten ([] : List va_W)) s.heap := hP
  have hl := lv_entry ([.ref (qT 0), .int p1, .int p2]) (n := 3) (Nat.le_of_ble_eq_true rfl)
  rw [lg_entry_eq]
  generalize (lg_sl ([.ref (qT 0), .int p1, .int p2]) ++ List.replicate (3 - (lg_sl ([.ref (qT 0), .int p1, .int p2])).length) Slot.unset).toArray = ls at hl ⊢
  have hl : lv_has ls 3 [(0, .ref (qT 0)), (1, .int p1), (2, .int p2)] := hl
  refine w_gen (fun Q hQ => ?_)
  refine lv_aload_n hx hb dX9_expectNumber_0 rfl (lv_at hl 0 rfl) ?_
  refine va_get (D := (dC, dI)) (ci := 9) (v := .int (vT 2)) (C := RX9) (T := TX9) (N := 10) hx hb hts (fun w h => List.mem_cons_of_mem _ (List.mem_append_right _ (List.mem_append_left _ h))) hown hK hP 0 rfl rfl 6 (by decide) (hts (.fieldLink RX9 41 "SagMemory$Tape" "kind" "I") (wl_mem 0 rfl)) (fun _ h9 => h9) rfl dX9_expectNumber_1 ?_
  refine lv_iconst (v := 2) hx hb dX9_expectNumber_4 (by decide) ?_
  refine lv_icmp_eq (tgt := 14) hx hb dX9_expectNumber_5 (by decide) (fun cz1 => ?_) (fun cz1 => ?_)
  · skip
    have zz2 : (vT 2).toInt = (2 : Int) := zi_eq.mp cz1
    refine lv_aload_n hx hb dX9_expectNumber_14 rfl (lv_at hl 0 rfl) ?_
    refine va_get (D := (dC, dI)) (ci := 9) (v := .int (vT 3)) (C := RX9) (T := TX9) (N := 10) hx hb hts (fun w h => List.mem_cons_of_mem _ (List.mem_append_right _ (List.mem_append_left _ h))) hown hK hP 0 rfl rfl 8 (by decide) (hts (.fieldLink RX9 151 "SagMemory$Tape" "value" "I") (wl_mem 1 rfl)) (fun _ h9 => h9) rfl dX9_expectNumber_15 ?_
    refine lv_iload_n hx hb dX9_expectNumber_18 rfl (lv_at hl 1 rfl) ?_
    refine lv_icmp_lt (tgt := 30) hx hb dX9_expectNumber_19 (by decide) (fun cz3 => ?_) (fun cz3 => ?_)
    · skip
      have bz4 := fb_rng (vT 3)
      have bz5 := fb_rng p1
      have zz6 : (vT 3).toInt < p1.toInt := zi_lt.mp cz3
      refine lv_aload_n hx hb dX9_expectNumber_30 rfl (lv_at hl 0 rfl) ?_
      refine lv_iconst (v := 2) hx hb dX9_expectNumber_31 (by decide) ?_
      have hPc := hP
      have hC : [0, 1].map (fun i => (List.flatten [(wTape qT k readT vT tT aT)] ++ List.flatten ([] : List va_W))[i]?) = (List.flatten [(wTape qT k readT vT tT aT)] ++ List.flatten ([] : List va_W)).map some := rfl
      have hDc := hD.sub [0, 1] (by decide) hC
      have hFc := va_free hD hS hA [0, 1] hC
      refine va_calli (va_runV (As := [.int 2]) (rest := []) ⟨hx, hb, hml, hown, hts⟩ (c_X9_fail l dC dI k s.heap.size qT readT vT tT aT (2 : Int32) htT) (cwV 1 hts (gk_V (wl_mem 2 rfl) (wl_mem 3 rfl) (wl_mem 4 rfl) (wl_mem 5 rfl) (fun w h => List.mem_cons_of_mem _ (List.mem_append_right _ (List.mem_append_right _ (List.mem_append_left _ h)))) wkg_c_X9_fail) rfl rfl rfl (by decide +kernel) ⟨Nat.le_of_ble_eq_true rfl, Nat.le_of_ble_eq_true rfl⟩) ⟨fun a U g mk q => by obtain ⟨q0, q1, qP, qK, qD⟩ := q; exact ⟨q0, q1, qP, va_K.moved (u := U) (U := U.calling g mk a) (Vm.Alike.refl U.vm) qK, qD⟩, va_recv hK hPc (ci := 9) (q0 := 0) rfl rfl, fun U hU hW => ⟨rfl, by rw [hU], by rw [hU]; exact hPc, va_K.moved hW.alike hK, hDc.weaken (fun _ _ _ _ => trivial)⟩⟩ rfl rfl hl.1 rfl (lv_room (Nat.le_of_ble_eq_true rfl)) dX9_expectNumber_32 ⟨Nat.le_of_ble_eq_true rfl, Nat.le_of_ble_eq_true rfl⟩) hS (fun q _ h => hFc q h) hFc (fun rz8 u t H1 locs ht hvm gz7 hB hz1 hk1 hS => ?_)
      obtain ⟨vz9, tz10, az11, htz10, hP1⟩ := hB
      rw [ht] at hP1
      obtain ⟨hP, hD⟩ := w_callR hP hD hk1 hP1 [0] rfl rfl (fun _ h => absurd h List.not_mem_nil) rfl [some 0] rfl rfl
      clear hPc hC hDc hFc hk1 hP1
      generalize H1 = H at hP hS ⊢
      have hP : va_P (dC, dI) vwCl (List.flatten [(wTape qT k readT vz9 tz10 az11)] ++ List.flatten ([] : List va_W)) H := hP
      have hD : va_D A (List.flatten [(wTape qT k readT vz9 tz10 az11)] ++ List.flatten ([] : List va_W)) := hD
      refine W.widen (k := 0) (n := 0) (Nat.le_refl 0) (Nat.le_refl 0) ?_
      obtain ⟨pz12, pz13⟩ := gz7
      have pz12 : rz8.toInt = 0 := pz12
      have pz13 : rz8.toInt = 0 ∨ rz8.toInt = 1 := pz13
      rw [hQ]
      exact W.zret (v := rz8) hx hb hr (zb_nar (by show rz8.toInt = 0 ∨ rz8.toInt = 1; omega)) (fun t ht hW => ⟨⟨rz8, rz8, rfl, rfl, vz9, tz10, az11, htz10, (by show rz8.toInt = 0 ∨ (p1.toInt ≤ (vz9 4).toInt ∧ (vz9 4).toInt ≤ p2.toInt); omega), (by show rz8.toInt = 0 ∨ rz8.toInt = 1; omega), by rw [ht]; exact hP⟩, hS.F ht⟩) hS.2.2 dX9_expectNumber_35
    · skip
      have bz14 := fb_rng (vT 3)
      have bz15 := fb_rng p1
      have zz16 : ¬ (vT 3).toInt < p1.toInt := fun h9 => cz3 (zi_lt.mpr h9)
      refine lv_aload_n hx hb dX9_expectNumber_22 rfl (lv_at hl 0 rfl) ?_
      refine va_get (D := (dC, dI)) (ci := 9) (v := .int (vT 3)) (C := RX9) (T := TX9) (N := 10) hx hb hts (fun w h => List.mem_cons_of_mem _ (List.mem_append_right _ (List.mem_append_left _ h))) hown hK hP 0 rfl rfl 8 (by decide) (hts (.fieldLink RX9 151 "SagMemory$Tape" "value" "I") (wl_mem 1 rfl)) (fun _ h9 => h9) rfl dX9_expectNumber_23 ?_
      refine lv_iload_n hx hb dX9_expectNumber_26 rfl (lv_at hl 2 rfl) ?_
      refine lv_icmp_le (tgt := 36) hx hb dX9_expectNumber_27 (by decide) (fun cz17 => ?_) (fun cz17 => ?_)
      · skip
        have bz18 := fb_rng p2
        have zz19 : (vT 3).toInt ≤ p2.toInt := zi_le.mp cz17
        refine lv_aload_n hx hb dX9_expectNumber_36 rfl (lv_at hl 0 rfl) ?_
        refine lv_aload_n hx hb dX9_expectNumber_37 rfl (lv_at hl 0 rfl) ?_
        refine va_get (D := (dC, dI)) (ci := 9) (v := .int (vT 3)) (C := RX9) (T := TX9) (N := 10) hx hb hts (fun w h => List.mem_cons_of_mem _ (List.mem_append_right _ (List.mem_append_left _ h))) hown hK hP 0 rfl rfl 8 (by decide) (hts (.fieldLink RX9 151 "SagMemory$Tape" "value" "I") (wl_mem 1 rfl)) (fun _ h9 => h9) rfl dX9_expectNumber_38 ?_
        refine va_put (D := (dC, dI)) (ci := 9) (v := .int (vT 3)) (ty := .int) (C := RX9) (T := TX9) (N := 10) hx hb hts (fun w h => List.mem_cons_of_mem _ (List.mem_append_right _ (List.mem_append_left _ h))) tyX9 tyX9_ok nmX9 hown hK hP hD hS 0 rfl rfl 9 (by decide) (hts (.fieldLink RX9 96 "SagMemory$Tape" "number" "I") (wl_mem 6 rfl)) (fun _ h9 => h9) rfl (by decide +kernel) rfl rfl (Nat.le_of_ble_eq_true rfl) dX9_expectNumber_41 (fun H locs hP hD hS => ?_)
        have hP : va_P (dC, dI) vwCl (List.flatten [(wTape qT k readT (va_up vT 4 (vT 3)) tT aT)] ++ List.flatten ([] : List va_W)) H := hP
        have hD : va_D A (List.flatten [(wTape qT k readT (va_up vT 4 (vT 3)) tT aT)] ++ List.flatten ([] : List va_W)) := hD
        refine lv_aload_n hx hb dX9_expectNumber_44 rfl (lv_at hl 0 rfl) ?_
        have hPc := hP
        have hC : [0, 1].map (fun i => (List.flatten [(wTape qT k readT (va_up vT 4 (vT 3)) tT aT)] ++ List.flatten ([] : List va_W))[i]?) = (List.flatten [(wTape qT k readT (va_up vT 4 (vT 3)) tT aT)] ++ List.flatten ([] : List va_W)).map some := rfl
        have hDc := hD.sub [0, 1] (by decide) hC
        have hFc := va_free hD hS hA [0, 1] hC
        refine va_callv (va_runV (As := []) (rest := []) ⟨hx, hb, hml, hown, hts⟩ (c_X9_next l dC dI k H.size qT readT (va_up vT 4 (vT 3)) tT aT htT) (cwV 0 hts (gk_V (wl_mem 7 rfl) (wl_mem 8 rfl) (wl_mem 9 rfl) (wl_mem 5 rfl) (fun w h => List.mem_cons_of_mem _ (List.mem_append_right _ (List.mem_append_right _ (List.mem_append_right _ (List.mem_append_left _ h))))) wkg_c_X9_next) rfl rfl rfl (by decide +kernel) ⟨Nat.le_of_ble_eq_true rfl, Nat.le_of_ble_eq_true rfl⟩) ⟨fun a U g mk q => by obtain ⟨q0, q1, qP, qK, qD⟩ := q; exact ⟨q0, q1, qP, va_K.moved (u := U) (U := U.calling g mk a) (Vm.Alike.refl U.vm) qK, qD⟩, va_recv hK hPc (ci := 9) (q0 := 0) rfl rfl, fun U hU hW => ⟨rfl, by rw [hU], by rw [hU]; exact hPc, va_K.moved hW.alike hK, hDc.weaken (fun _ _ _ _ => trivial)⟩⟩ rfl rfl hl.1 rfl (lv_room (Nat.le_of_ble_eq_true rfl)) dX9_expectNumber_45 ⟨Nat.le_of_ble_eq_true rfl, Nat.le_of_ble_eq_true rfl⟩) hS (fun q _ h => hFc q h) hFc (fun u t H1 locs ht hvm gz20 hB hz1 hk1 hS => ?_)
        obtain ⟨vz22, tz23, az24, htz23, pz25, hP1⟩ := hB
        rw [ht] at hP1
        obtain ⟨hP, hD⟩ := w_callR hP hD hk1 hP1 [0] rfl rfl (fun _ h => absurd h List.not_mem_nil) rfl [some 0] rfl rfl
        clear hPc hC hDc hFc hk1 hP1
        generalize H1 = H at hP hS ⊢
        have hP : va_P (dC, dI) vwCl (List.flatten [(wTape qT k readT vz22 tz23 az24)] ++ List.flatten ([] : List va_W)) H := hP
        have hD : va_D A (List.flatten [(wTape qT k readT vz22 tz23 az24)] ++ List.flatten ([] : List va_W)) := hD
        refine W.widen (k := 0) (n := 0) (Nat.le_refl 0) (Nat.le_refl 0) ?_
        have pz25 : (vz22 4).toInt = (vT 3).toInt := pz25
        refine lv_iconst (v := 1) hx hb dX9_expectNumber_48 (by decide) ?_
        rw [hQ]
        exact W.zret (v := (1 : Int32)) hx hb hr rfl (fun t ht hW => ⟨⟨(1 : Int32), (1 : Int32), rfl, rfl, vz22, tz23, az24, htz23, (by show (1 : Int) = 0 ∨ (p1.toInt ≤ (vz22 4).toInt ∧ (vz22 4).toInt ≤ p2.toInt); omega), (by show (1 : Int) = 0 ∨ (1 : Int) = 1; omega), by rw [ht]; exact hP⟩, hS.F ht⟩) hS.2.2 dX9_expectNumber_49
      · skip
        have bz26 := fb_rng p2
        have zz27 : ¬ (vT 3).toInt ≤ p2.toInt := fun h9 => cz17 (zi_le.mpr h9)
        refine lv_aload_n hx hb dX9_expectNumber_30 rfl (lv_at hl 0 rfl) ?_
        refine lv_iconst (v := 2) hx hb dX9_expectNumber_31 (by decide) ?_
        have hPc := hP
        have hC : [0, 1].map (fun i => (List.flatten [(wTape qT k readT vT tT aT)] ++ List.flatten ([] : List va_W))[i]?) = (List.flatten [(wTape qT k readT vT tT aT)] ++ List.flatten ([] : List va_W)).map some := rfl
        have hDc := hD.sub [0, 1] (by decide) hC
        have hFc := va_free hD hS hA [0, 1] hC
        refine va_calli (va_runV (As := [.int 2]) (rest := []) ⟨hx, hb, hml, hown, hts⟩ (c_X9_fail l dC dI k s.heap.size qT readT vT tT aT (2 : Int32) htT) (cwV 1 hts (gk_V (wl_mem 2 rfl) (wl_mem 3 rfl) (wl_mem 4 rfl) (wl_mem 5 rfl) (fun w h => List.mem_cons_of_mem _ (List.mem_append_right _ (List.mem_append_right _ (List.mem_append_left _ h)))) wkg_c_X9_fail) rfl rfl rfl (by decide +kernel) ⟨Nat.le_of_ble_eq_true rfl, Nat.le_of_ble_eq_true rfl⟩) ⟨fun a U g mk q => by obtain ⟨q0, q1, qP, qK, qD⟩ := q; exact ⟨q0, q1, qP, va_K.moved (u := U) (U := U.calling g mk a) (Vm.Alike.refl U.vm) qK, qD⟩, va_recv hK hPc (ci := 9) (q0 := 0) rfl rfl, fun U hU hW => ⟨rfl, by rw [hU], by rw [hU]; exact hPc, va_K.moved hW.alike hK, hDc.weaken (fun _ _ _ _ => trivial)⟩⟩ rfl rfl hl.1 rfl (lv_room (Nat.le_of_ble_eq_true rfl)) dX9_expectNumber_32 ⟨Nat.le_of_ble_eq_true rfl, Nat.le_of_ble_eq_true rfl⟩) hS (fun q _ h => hFc q h) hFc (fun rz29 u t H1 locs ht hvm gz28 hB hz1 hk1 hS => ?_)
        obtain ⟨vz30, tz31, az32, htz31, hP1⟩ := hB
        rw [ht] at hP1
        obtain ⟨hP, hD⟩ := w_callR hP hD hk1 hP1 [0] rfl rfl (fun _ h => absurd h List.not_mem_nil) rfl [some 0] rfl rfl
        clear hPc hC hDc hFc hk1 hP1
        generalize H1 = H at hP hS ⊢
        have hP : va_P (dC, dI) vwCl (List.flatten [(wTape qT k readT vz30 tz31 az32)] ++ List.flatten ([] : List va_W)) H := hP
        have hD : va_D A (List.flatten [(wTape qT k readT vz30 tz31 az32)] ++ List.flatten ([] : List va_W)) := hD
        refine W.widen (k := 0) (n := 0) (Nat.le_refl 0) (Nat.le_refl 0) ?_
        obtain ⟨pz33, pz34⟩ := gz28
        have pz33 : rz29.toInt = 0 := pz33
        have pz34 : rz29.toInt = 0 ∨ rz29.toInt = 1 := pz34
        rw [hQ]
        exact W.zret (v := rz29) hx hb hr (zb_nar (by show rz29.toInt = 0 ∨ rz29.toInt = 1; omega)) (fun t ht hW => ⟨⟨rz29, rz29, rfl, rfl, vz30, tz31, az32, htz31, (by show rz29.toInt = 0 ∨ (p1.toInt ≤ (vz30 4).toInt ∧ (vz30 4).toInt ≤ p2.toInt); omega), (by show rz29.toInt = 0 ∨ rz29.toInt = 1; omega), by rw [ht]; exact hP⟩, hS.F ht⟩) hS.2.2 dX9_expectNumber_35
  · skip
    have zz35 : ¬ (vT 2).toInt = (2 : Int) := fun h9 => cz1 (zi_eq.mpr h9)
    refine lv_aload_n hx hb dX9_expectNumber_8 rfl (lv_at hl 0 rfl) ?_
    refine lv_iconst (v := 1) hx hb dX9_expectNumber_9 (by decide) ?_
    have hPc := hP
    have hC : [0, 1].map (fun i => (List.flatten [(wTape qT k readT vT tT aT)] ++ List.flatten ([] : List va_W))[i]?) = (List.flatten [(wTape qT k readT vT tT aT)] ++ List.flatten ([] : List va_W)).map some := rfl
    have hDc := hD.sub [0, 1] (by decide) hC
    have hFc := va_free hD hS hA [0, 1] hC
    refine va_calli (va_runV (As := [.int 1]) (rest := []) ⟨hx, hb, hml, hown, hts⟩ (c_X9_fail l dC dI k s.heap.size qT readT vT tT aT (1 : Int32) htT) (cwV 1 hts (gk_V (wl_mem 2 rfl) (wl_mem 3 rfl) (wl_mem 4 rfl) (wl_mem 5 rfl) (fun w h => List.mem_cons_of_mem _ (List.mem_append_right _ (List.mem_append_right _ (List.mem_append_left _ h)))) wkg_c_X9_fail) rfl rfl rfl (by decide +kernel) ⟨Nat.le_of_ble_eq_true rfl, Nat.le_of_ble_eq_true rfl⟩) ⟨fun a U g mk q => by obtain ⟨q0, q1, qP, qK, qD⟩ := q; exact ⟨q0, q1, qP, va_K.moved (u := U) (U := U.calling g mk a) (Vm.Alike.refl U.vm) qK, qD⟩, va_recv hK hPc (ci := 9) (q0 := 0) rfl rfl, fun U hU hW => ⟨rfl, by rw [hU], by rw [hU]; exact hPc, va_K.moved hW.alike hK, hDc.weaken (fun _ _ _ _ => trivial)⟩⟩ rfl rfl hl.1 rfl (lv_room (Nat.le_of_ble_eq_true rfl)) dX9_expectNumber_10 ⟨Nat.le_of_ble_eq_true rfl, Nat.le_of_ble_eq_true rfl⟩) hS (fun q _ h => hFc q h) hFc (fun rz37 u t H1 locs ht hvm gz36 hB hz1 hk1 hS => ?_)
    obtain ⟨vz38, tz39, az40, htz39, hP1⟩ := hB
    rw [ht] at hP1
    obtain ⟨hP, hD⟩ := w_callR hP hD hk1 hP1 [0] rfl rfl (fun _ h => absurd h List.not_mem_nil) rfl [some 0] rfl rfl
    clear hPc hC hDc hFc hk1 hP1
    generalize H1 = H at hP hS ⊢
    have hP : va_P (dC, dI) vwCl (List.flatten [(wTape qT k readT vz38 tz39 az40)] ++ List.flatten ([] : List va_W)) H := hP
    have hD : va_D A (List.flatten [(wTape qT k readT vz38 tz39 az40)] ++ List.flatten ([] : List va_W)) := hD
    refine W.widen (k := 0) (n := 0) (Nat.le_refl 0) (Nat.le_refl 0) ?_
    obtain ⟨pz41, pz42⟩ := gz36
    have pz41 : rz37.toInt = 0 := pz41
    have pz42 : rz37.toInt = 0 ∨ rz37.toInt = 1 := pz42
    rw [hQ]
    exact W.zret (v := rz37) hx hb hr (zb_nar (by show rz37.toInt = 0 ∨ rz37.toInt = 1; omega)) (fun t ht hW => ⟨⟨rz37, rz37, rfl, rfl, vz38, tz39, az40, htz39, (by show rz37.toInt = 0 ∨ (p1.toInt ≤ (vz38 4).toInt ∧ (vz38 4).toInt ≤ p2.toInt); omega), (by show rz37.toInt = 0 ∨ rz37.toInt = 1; omega), by rw [ht]; exact hP⟩, hS.F ht⟩) hS.2.2 dX9_expectNumber_13
def wk_c_X9_expectSign : List Cond := .code yX9_expectSign cX9_expectSign 1 (some .boolean) :: ([.fieldLink RX9 41 "SagMemory$Tape" "kind" "I", .methodLink RX9 38 yX9_next, .instanceMethod yX9_next, .selects RX9 yX9_next yX9_next, .initialized RX9, .methodLink RX9 86 yX9_fail, .instanceMethod yX9_fail, .selects RX9 yX9_fail yX9_fail] ++ (wsX90 ++ (wk_c_X9_next ++ (wk_c_X9_fail ++ []))))
theorem wkg_c_X9_expectSign : wk_c_X9_expectSign.all goodWord = true := by decide +kernel
set_option maxHeartbeats 4000000 in
set_option maxRecDepth 100000 in
theorem c_X9_expectSign (l : Launch) (dC : Nat → ClassId) (dI : Nat → Nat → Nat) (k : Nat → ClassId) (sz : Nat) (qT : Nat → Nat) (readT : Nat) (vT : Nat → Int32) (tT : Nat → Int32) (aT : Nat → Nat → Int32) (htT : Rg 0 700 tT) : Met l yX9_expectSign wk_c_X9_expectSign ({ frames := 2, cells := 0, slots := 0, locals := 100 }) (va_Pc [.ref (qT 0)] (fun U => U.heap.size = sz ∧ va_P (dC, dI) vwCl (List.flatten [(wTape qT k readT vT tT aT)] ++ List.flatten ([] : List va_W)) U.heap ∧ va_K (dC, dI) vwCl (tK k) U ∧ va_D (fun _ => True) (List.flatten [(wTape qT k readT vT tT aT)] ++ List.flatten ([] : List va_W)))) (va_Qi (fun (r : Int32) (_ : Unit) => (r.toInt = 0 ∨ r.toInt = 1)) (fun (_ : Unit) (t : State) => ∃ (vT' : Nat → Int32) (tT' : Nat → Int32) (aT' : Nat → Nat → Int32), Rg 0 700 tT' ∧ va_P (dC, dI) vwCl (List.flatten [(wTape qT k readT vT' tT' aT')] ++ List.flatten ([] : List va_W)) t.heap) (va_A (List.flatten [(wTape qT k readT vT tT aT)] ++ List.flatten ([] : List va_W)) sz)) 0 0 (va_A (List.flatten [(wTape qT k readT vT tT aT)] ++ List.flatten ([] : List va_W)) sz) := by
  refine Met.ofW (cc := cX9_expectSign) (maxL := 1) (ret := (some .boolean)) (by decide) rfl ?_
  intro p e s m args below meth c s₁ B hml hv
  obtain ⟨rfl, hsz, hP, hK, hD0⟩ := hv
  have hx := B.exec
  have hb := B.bytes
  have hr := B.returns
  have hts := atoms_spec (ws := wk_c_X9_expectSign) B.pre
  have hown : s.vm.findClass RX9 = some m.cls := findClass_of_methodNamed B.named
  have hlocks := B.notSynchronized
  subst hsz
  have hD := hD0.self (sz := s.heap.size)
  generalize hAe : va_A (List.flatten [(wTape qT k readT vT tT aT)] ++ List.flatten ([] : List va_W)) s.heap.size = A at hD ⊢
  have hA : ∀ q : Nat, s.heap.size ≤ q → A q := fun q h => by rw [← hAe]; exact Or.inr h
  have hS : va_S A s.heap s.heap [] := va_S.rf
  have hP : va_P (dC, dI) vwCl (List.flatten [(wTape qT k readT vT tT aT)] ++ List.flatten ([] : List va_W)) s.heap := hP
  have hl := lv_entry ([.ref (qT 0)]) (n := 1) (Nat.le_of_ble_eq_true rfl)
  rw [lg_entry_eq]
  generalize (lg_sl ([.ref (qT 0)]) ++ List.replicate (1 - (lg_sl ([.ref (qT 0)])).length) Slot.unset).toArray = ls at hl ⊢
  have hl : lv_has ls 1 [(0, .ref (qT 0))] := hl
  refine w_gen (fun Q hQ => ?_)
  refine lv_aload_n hx hb dX9_expectSign_0 rfl (lv_at hl 0 rfl) ?_
  refine va_get (D := (dC, dI)) (ci := 9) (v := .int (vT 2)) (C := RX9) (T := TX9) (N := 10) hx hb hts (fun w h => List.mem_cons_of_mem _ (List.mem_append_right _ (List.mem_append_left _ h))) hown hK hP 0 rfl rfl 6 (by decide) (hts (.fieldLink RX9 41 "SagMemory$Tape" "kind" "I") (wl_mem 0 rfl)) (fun _ h9 => h9) rfl dX9_expectSign_1 ?_
  refine lv_iconst (v := 3) hx hb dX9_expectSign_4 (by decide) ?_
  refine lv_icmp_eq (tgt := 14) hx hb dX9_expectSign_5 (by decide) (fun cz1 => ?_) (fun cz1 => ?_)
  · skip
    have zz2 : (vT 2).toInt = (3 : Int) := zi_eq.mp cz1
    refine lv_aload_n hx hb dX9_expectSign_14 rfl (lv_at hl 0 rfl) ?_
    have hPc := hP
    have hC : [0, 1].map (fun i => (List.flatten [(wTape qT k readT vT tT aT)] ++ List.flatten ([] : List va_W))[i]?) = (List.flatten [(wTape qT k readT vT tT aT)] ++ List.flatten ([] : List va_W)).map some := rfl
    have hDc := hD.sub [0, 1] (by decide) hC
    have hFc := va_free hD hS hA [0, 1] hC
    refine va_callv (va_runV (As := []) (rest := []) ⟨hx, hb, hml, hown, hts⟩ (c_X9_next l dC dI k s.heap.size qT readT vT tT aT htT) (cwV 0 hts (gk_V (wl_mem 1 rfl) (wl_mem 2 rfl) (wl_mem 3 rfl) (wl_mem 4 rfl) (fun w h => List.mem_cons_of_mem _ (List.mem_append_right _ (List.mem_append_right _ (List.mem_append_left _ h)))) wkg_c_X9_next) rfl rfl rfl (by decide +kernel) ⟨Nat.le_of_ble_eq_true rfl, Nat.le_of_ble_eq_true rfl⟩) ⟨fun a U g mk q => by obtain ⟨q0, q1, qP, qK, qD⟩ := q; exact ⟨q0, q1, qP, va_K.moved (u := U) (U := U.calling g mk a) (Vm.Alike.refl U.vm) qK, qD⟩, va_recv hK hPc (ci := 9) (q0 := 0) rfl rfl, fun U hU hW => ⟨rfl, by rw [hU], by rw [hU]; exact hPc, va_K.moved hW.alike hK, hDc.weaken (fun _ _ _ _ => trivial)⟩⟩ rfl rfl hl.1 rfl (lv_room (Nat.le_of_ble_eq_true rfl)) dX9_expectSign_15 ⟨Nat.le_of_ble_eq_true rfl, Nat.le_of_ble_eq_true rfl⟩) hS (fun q _ h => hFc q h) hFc (fun u t H1 locs ht hvm gz3 hB hz1 hk1 hS => ?_)
    obtain ⟨vz5, tz6, az7, htz6, pz8, hP1⟩ := hB
    rw [ht] at hP1
    obtain ⟨hP, hD⟩ := w_callR hP hD hk1 hP1 [0] rfl rfl (fun _ h => absurd h List.not_mem_nil) rfl [some 0] rfl rfl
    clear hPc hC hDc hFc hk1 hP1
    generalize H1 = H at hP hS ⊢
    have hP : va_P (dC, dI) vwCl (List.flatten [(wTape qT k readT vz5 tz6 az7)] ++ List.flatten ([] : List va_W)) H := hP
    have hD : va_D A (List.flatten [(wTape qT k readT vz5 tz6 az7)] ++ List.flatten ([] : List va_W)) := hD
    refine W.widen (k := 0) (n := 0) (Nat.le_refl 0) (Nat.le_refl 0) ?_
    have pz8 : (vz5 4).toInt = (vT 4).toInt := pz8
    refine lv_iconst (v := 1) hx hb dX9_expectSign_18 (by decide) ?_
    rw [hQ]
    exact W.zret (v := (1 : Int32)) hx hb hr rfl (fun t ht hW => ⟨⟨(1 : Int32), (), rfl, (by show (1 : Int) = 0 ∨ (1 : Int) = 1; omega), vz5, tz6, az7, htz6, by rw [ht]; exact hP⟩, hS.F ht⟩) hS.2.2 dX9_expectSign_19
  · skip
    have zz9 : ¬ (vT 2).toInt = (3 : Int) := fun h9 => cz1 (zi_eq.mpr h9)
    refine lv_aload_n hx hb dX9_expectSign_8 rfl (lv_at hl 0 rfl) ?_
    refine lv_iconst (v := 1) hx hb dX9_expectSign_9 (by decide) ?_
    have hPc := hP
    have hC : [0, 1].map (fun i => (List.flatten [(wTape qT k readT vT tT aT)] ++ List.flatten ([] : List va_W))[i]?) = (List.flatten [(wTape qT k readT vT tT aT)] ++ List.flatten ([] : List va_W)).map some := rfl
    have hDc := hD.sub [0, 1] (by decide) hC
    have hFc := va_free hD hS hA [0, 1] hC
    refine va_calli (va_runV (As := [.int 1]) (rest := []) ⟨hx, hb, hml, hown, hts⟩ (c_X9_fail l dC dI k s.heap.size qT readT vT tT aT (1 : Int32) htT) (cwV 1 hts (gk_V (wl_mem 5 rfl) (wl_mem 6 rfl) (wl_mem 7 rfl) (wl_mem 4 rfl) (fun w h => List.mem_cons_of_mem _ (List.mem_append_right _ (List.mem_append_right _ (List.mem_append_right _ (List.mem_append_left _ h))))) wkg_c_X9_fail) rfl rfl rfl (by decide +kernel) ⟨Nat.le_of_ble_eq_true rfl, Nat.le_of_ble_eq_true rfl⟩) ⟨fun a U g mk q => by obtain ⟨q0, q1, qP, qK, qD⟩ := q; exact ⟨q0, q1, qP, va_K.moved (u := U) (U := U.calling g mk a) (Vm.Alike.refl U.vm) qK, qD⟩, va_recv hK hPc (ci := 9) (q0 := 0) rfl rfl, fun U hU hW => ⟨rfl, by rw [hU], by rw [hU]; exact hPc, va_K.moved hW.alike hK, hDc.weaken (fun _ _ _ _ => trivial)⟩⟩ rfl rfl hl.1 rfl (lv_room (Nat.le_of_ble_eq_true rfl)) dX9_expectSign_10 ⟨Nat.le_of_ble_eq_true rfl, Nat.le_of_ble_eq_true rfl⟩) hS (fun q _ h => hFc q h) hFc (fun rz11 u t H1 locs ht hvm gz10 hB hz1 hk1 hS => ?_)
    obtain ⟨vz12, tz13, az14, htz13, hP1⟩ := hB
    rw [ht] at hP1
    obtain ⟨hP, hD⟩ := w_callR hP hD hk1 hP1 [0] rfl rfl (fun _ h => absurd h List.not_mem_nil) rfl [some 0] rfl rfl
    clear hPc hC hDc hFc hk1 hP1
    generalize H1 = H at hP hS ⊢
    have hP : va_P (dC, dI) vwCl (List.flatten [(wTape qT k readT vz12 tz13 az14)] ++ List.flatten ([] : List va_W)) H := hP
    have hD : va_D A (List.flatten [(wTape qT k readT vz12 tz13 az14)] ++ List.flatten ([] : List va_W)) := hD
    refine W.widen (k := 0) (n := 0) (Nat.le_refl 0) (Nat.le_refl 0) ?_
    obtain ⟨pz15, pz16⟩ := gz10
    have pz15 : rz11.toInt = 0 := pz15
    have pz16 : rz11.toInt = 0 ∨ rz11.toInt = 1 := pz16
    rw [hQ]
    exact W.zret (v := rz11) hx hb hr (zb_nar (by show rz11.toInt = 0 ∨ rz11.toInt = 1; omega)) (fun t ht hW => ⟨⟨rz11, (), rfl, (by show rz11.toInt = 0 ∨ rz11.toInt = 1; omega), vz12, tz13, az14, htz13, by rw [ht]; exact hP⟩, hS.F ht⟩) hS.2.2 dX9_expectSign_13
