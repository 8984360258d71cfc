def wk_c_X6_begin_x : List Cond := .code yX6_begin cX6_begin 4 none :: ([.fieldLink RX6 15 "SagMemory$Slot" "has" "Z", .fieldLink RX6 19 "SagMemory$Slot" "width" "I", .fieldLink RX6 23 "SagMemory$Slot" "length" "I", .fieldLink RX6 9 "SagMemory$Slot" "numbers" "[J"] ++ (wsX60 ++ []))
theorem wkg_c_X6_begin_x : wk_c_X6_begin_x.all goodWord = true := by decide +kernel
set_option maxHeartbeats 4000000 in
set_option maxRecDepth 100000 in
theorem c_X6_begin_x (l : Launch) (dC : Nat → ClassId) (dI : Nat → Nat → Nat) (k : Nat → ClassId) (sz : Nat) (qL : Nat → Nat) (vL : Nat → Int32) (sL : Nat → Int32) (lL : Nat → Nat → Int64) (p1 : Int32) (p2 : Int32) (hsL : Rg 0 60 sL) (hp0 : 0 ≤ p2.toInt ∧ p2.toInt ≤ 60) : Met l yX6_begin wk_c_X6_begin_x ({ frames := 0, cells := 0, slots := 0, locals := 0 }) (va_Pc [.ref (qL 0), .int p1, .int p2] (fun U => U.heap.size = sz ∧ va_P (dC, dI) vwCl (List.flatten [(wSlot qL k vL sL lL)] ++ List.flatten ([] : List va_W)) U.heap ∧ va_K (dC, dI) vwCl (tK k) U ∧ va_D (fun _ => True) (List.flatten [(wSlot qL k vL sL lL)] ++ List.flatten ([] : List va_W)))) (va_Qv (fun _ : Unit => True) (fun (_ : Unit) (t : State) => ∃ (vL' : Nat → Int32) (sL' : Nat → Int32) (lL' : Nat → Nat → Int64), Rg 0 60 sL' ∧ ((vL' 0).toInt = 1) ∧ ((vL' 1).toInt = p1.toInt) ∧ ((sL' 0).toInt = p2.toInt) ∧ va_P (dC, dI) vwCl (List.flatten [(wSlot qL k vL' sL' lL')] ++ List.flatten ([] : List va_W)) t.heap) (va_A (List.flatten [(wSlot qL k vL sL lL)] ++ List.flatten ([] : List va_W)) sz)) 0 0 (va_A (List.flatten [(wSlot qL k vL sL lL)] ++ List.flatten ([] : List va_W)) sz) := by
  refine Met.ofW (cc := cX6_begin) (maxL := 4) (ret := none) (by decide) rfl ?_
  intro p e s m args below meth c s₁ B hml hv
  obtain ⟨rfl, hsz, hP, hK, hD0⟩ := hv
  have hx := B.exec
  have hb := B.bytes
  have hr := B.returns
  have hts := atoms_spec (ws := wk_c_X6_begin_x) B.pre
  have hown : s.vm.findClass RX6 = some m.cls := findClass_of_methodNamed B.named
  have hlocks := B.notSynchronized
  subst hsz
  have hD := hD0.self (sz := s.heap.size)
  generalize hAe : va_A (List.flatten [(wSlot qL k vL sL lL)] ++ List.flatten ([] : List va_W)) s.heap.size = A at hD ⊢
  have hA : ∀ q : Nat, s.heap.size ≤ q → A q := fun q h => by rw [← hAe]; exact Or.inr h
  have hS : va_S A s.heap s.heap [] := va_S.rf
  have hP : va_P (dC, dI) vwCl (List.flatten [(wSlot qL k vL sL lL)] ++ List.flatten ([] : List va_W)) s.heap := hP
  have hl := lv_entry ([.ref (qL 0), .int p1, .int p2]) (n := 4) (Nat.le_of_ble_eq_true rfl)
  rw [lg_entry_eq]
  generalize (lg_sl ([.ref (qL 0), .int p1, .int p2]) ++ List.replicate (4 - (lg_sl ([.ref (qL 0), .int p1, .int p2])).length) Slot.unset).toArray = ls at hl ⊢
  have hl : lv_has ls 4 [(0, .ref (qL 0)), (1, .int p1), (2, .int p2)] := hl
  refine w_gen (fun Q hQ => ?_)
  refine lv_aload_n hx hb dX6_begin_0 rfl (lv_at hl 0 rfl) ?_
  refine lv_iconst (v := 1) hx hb dX6_begin_1 (by decide) ?_
  refine va_put (D := (dC, dI)) (ci := 6) (v := .int 1) (ty := .boolean) (C := RX6) (T := TX6) (N := 4) hx hb hts (fun w h => List.mem_cons_of_mem _ (List.mem_append_right _ (List.mem_append_left _ h))) tyX6 tyX6_ok nmX6 hown hK hP hD hS 0 rfl rfl 1 (by decide) (hts (.fieldLink RX6 15 "SagMemory$Slot" "has" "Z") (wl_mem 0 rfl)) (fun _ h9 => h9) rfl (by decide +kernel) rfl rfl (Nat.le_of_ble_eq_true rfl) dX6_begin_2 (fun H locs hP hD hS => ?_)
  have hP : va_P (dC, dI) vwCl (List.flatten [(wSlot qL k (va_up vL 0 (1 : Int32)) sL lL)] ++ List.flatten ([] : List va_W)) H := hP
  have hD : va_D A (List.flatten [(wSlot qL k (va_up vL 0 (1 : Int32)) sL lL)] ++ List.flatten ([] : List va_W)) := hD
  refine lv_aload_n hx hb dX6_begin_5 rfl (lv_at hl 0 rfl) ?_
  refine lv_iload_n hx hb dX6_begin_6 rfl (lv_at hl 1 rfl) ?_
  refine va_put (D := (dC, dI)) (ci := 6) (v := .int p1) (ty := .int) (C := RX6) (T := TX6) (N := 4) hx hb hts (fun w h => List.mem_cons_of_mem _ (List.mem_append_right _ (List.mem_append_left _ h))) tyX6 tyX6_ok nmX6 hown hK hP hD hS 0 rfl rfl 2 (by decide) (hts (.fieldLink RX6 19 "SagMemory$Slot" "width" "I") (wl_mem 1 rfl)) (fun _ h9 => h9) rfl (by decide +kernel) rfl rfl (Nat.le_of_ble_eq_true rfl) dX6_begin_7 (fun H locs hP hD hS => ?_)
  have hP : va_P (dC, dI) vwCl (List.flatten [(wSlot qL k (va_up (va_up vL 0 (1 : Int32)) 1 p1) sL lL)] ++ List.flatten ([] : List va_W)) H := hP
  have hD : va_D A (List.flatten [(wSlot qL k (va_up (va_up vL 0 (1 : Int32)) 1 p1) sL lL)] ++ List.flatten ([] : List va_W)) := hD
  refine lv_aload_n hx hb dX6_begin_10 rfl (lv_at hl 0 rfl) ?_
  refine lv_iload_n hx hb dX6_begin_11 rfl (lv_at hl 2 rfl) ?_
  refine va_put (D := (dC, dI)) (ci := 6) (v := .int p2) (ty := .int) (C := RX6) (T := TX6) (N := 4) hx hb hts (fun w h => List.mem_cons_of_mem _ (List.mem_append_right _ (List.mem_append_left _ h))) tyX6 tyX6_ok nmX6 hown hK hP hD hS 0 rfl rfl 3 (by decide) (hts (.fieldLink RX6 23 "SagMemory$Slot" "length" "I") (wl_mem 2 rfl)) (fun _ h9 => h9) rfl (by decide +kernel) rfl rfl (Nat.le_of_ble_eq_true rfl) dX6_begin_12 (fun H locs hP hD hS => ?_)
  have hP : va_P (dC, dI) vwCl (List.flatten [(wSlot qL k (va_up (va_up vL 0 (1 : Int32)) 1 p1) (va_up sL 0 p2) lL)] ++ List.flatten ([] : List va_W)) H := hP
  have hD : va_D A (List.flatten [(wSlot qL k (va_up (va_up vL 0 (1 : Int32)) 1 p1) (va_up sL 0 p2) lL)] ++ List.flatten ([] : List va_W)) := hD
  refine lv_iconst (v := 0) hx hb dX6_begin_15 (by decide) ?_
  refine lv_istore_n (lv' := [(3, .int 0), (0, .ref (qL 0)), (1, .int p1), (2, .int p2)]) hx hb dX6_begin_16 rfl hl (by decide) rfl (fun ls hl => ?_)
  have lp17_kz14 : ∀ (n9_17 : Nat) (H : Heap) (locs : List Loc) (ls : Array Slot) (lz12 : Nat → Nat → Int64) (xz13 : Int32), (2147483647 - xz13.toInt).toNat < n9_17 → 0 ≤ xz13.toInt → va_P (dC, dI) vwCl (List.flatten [(wSlot qL k (va_up (va_up vL 0 (1 : Int32)) 1 p1) (va_up sL 0 p2) lz12)] ++ List.flatten ([] : List va_W)) H → va_D A (List.flatten [(wSlot qL k (va_up (va_up vL 0 (1 : Int32)) 1 p1) (va_up sL 0 p2) lz12)] ++ List.flatten ([] : List va_W)) → va_S A s.heap H locs → lv_has ls 4 [(0, .ref (qL 0)), (3, .int xz13)] → W p l e (headSpec wk_c_X6_begin_x ({ frames := 0, cells := 0, slots := 0, locals := 0 })).room s m ([.ref (qL 0), .int p1, .int p2] : List Value).toArray below meth c H locs 0 0 Q (F0 m 17 ls []) := by
    intro n9_17
    induction n9_17 with
    | zero => intro H locs ls lz12 xz13 hm; exact absurd hm (Nat.not_lt_zero _)
    | succ n9_17 ih17 =>
      intro H locs ls lz12 xz13 hm17 jz15 hP hD hS hl
      refine lv_iload_n hx hb dX6_begin_17 rfl (lv_at hl 1 rfl) ?_
      refine lv_bipush (v := 60) hx hb dX6_begin_18 (by decide) ?_
      refine lv_icmp_ge (tgt := 36) hx hb dX6_begin_20 (by decide) (fun cz16 => ?_) (fun cz16 => ?_)
      · skip
        have bz17 := fb_rng xz13
        have zz18 : (60 : Int) ≤ xz13.toInt := zi_le.mp cz16
        rw [hQ]
        exact W.vret hx hb hr (fun t ht hW => ⟨⟨(), rfl, trivial, (va_up (va_up vL 0 (1 : Int32)) 1 p1), (va_up sL 0 p2), lz12, (rg_up hsL (by show 0 ≤ p2.toInt ∧ p2.toInt ≤ 60; omega)), (by show (1 : Int) = 1; omega), (by show p1.toInt = p1.toInt; omega), (by show p2.toInt = p2.toInt; omega), by rw [ht]; exact hP⟩, hS.F ht⟩) hS.2.2 dX6_begin_36
      · skip
        have bz19 := fb_rng xz13
        have zz20 : ¬ (60 : Int) ≤ xz13.toInt := fun h9 => cz16 (zi_le.mpr h9)
        refine lv_aload_n hx hb dX6_begin_23 rfl (lv_at hl 0 rfl) ?_
        refine va_get (D := (dC, dI)) (ci := 6) (v := .ref (qL 1)) (C := RX6) (T := TX6) (N := 4) hx hb hts (fun w h => List.mem_cons_of_mem _ (List.mem_append_right _ (List.mem_append_left _ h))) hown hK hP 0 rfl rfl 0 (by decide) (hts (.fieldLink RX6 9 "SagMemory$Slot" "numbers" "[J") (wl_mem 3 rfl)) (fun _ h9 => h9) rfl dX6_begin_24 ?_
        refine lv_iload_n hx hb dX6_begin_27 rfl (lv_at hl 1 rfl) ?_
        refine lv_lconst (v := 0) hx hb dX6_begin_28 (by decide) ?_
        refine va_last hx hb hK hP hD hS 1 1 rfl rfl (vp_in_iff.mpr ⟨by omega, by omega⟩) dX6_begin_29 (fun H locs hP hD hS => ?_)
        obtain ⟨fz21, efz21, hP, hD⟩ : ∃ fz21 : Nat → Int64, fz21 = vp_updL (lz12 0) xz13.toNatClampNeg (0 : Int64) ∧ va_P (dC, dI) vwCl (List.flatten [(wSlot qL k (va_up (va_up vL 0 (1 : Int32)) 1 p1) (va_up sL 0 p2) (va_up lz12 0 fz21))] ++ List.flatten ([] : List va_W)) H ∧ va_D A (List.flatten [(wSlot qL k (va_up (va_up vL 0 (1 : Int32)) 1 p1) (va_up sL 0 p2) (va_up lz12 0 fz21))] ++ List.flatten ([] : List va_W)) := ⟨_, rfl, hP, hD⟩
        have kfz21 : fz21 xz13.toNatClampNeg = (0 : Int64) := by rw [efz21]; exact pk_uLs
        obtain ⟨xz22, exz22⟩ : ∃ y : Int32, y = xz13 + Int32.ofInt (1) := ⟨_, rfl⟩
        have fxz22 : xz22.toInt = xz13.toInt + (1) := by rw [exz22]; exact fb_addI (y := Int32.ofInt (1)) (by show -2147483648 ≤ xz13.toInt + (1); omega) (by show xz13.toInt + (1) < 2147483648; omega)
        refine lv_iinc (v := xz22) (lv' := [(3, .int xz22), (0, .ref (qL 0))]) hx hb dX6_begin_30 hl (k := 1) rfl exz22.symm (by decide) rfl (fun ls hl => ?_)
        refine lv_goto (tgt := 17) hx hb dX6_begin_33 (by decide) ?_
        exact ih17 H locs ls (va_up lz12 0 fz21) xz22 (by show (2147483647 - xz22.toInt).toNat < n9_17; omega) (by show 0 ≤ xz22.toInt; omega) hP hD hS (lv_sub hl [1, 0] rfl)
  exact lp17_kz14 _ H locs ls lL (0 : Int32) (Nat.lt_succ_self _) (by show 0 ≤ (0 : Int); omega) hP hD hS (lv_sub hl [1, 0] rfl)
def wk_c_X11_row_y : List Cond := .code yX11_row cX11_row 4 (some .int) :: ([.methodLink RX11 380 yX11_hasSlot, .static yX11_hasSlot, .initialized RX11, .fieldLink RX11 85 "SagMemory" "slots" "[LSagMemory$Slot;", .methodLink RX11 383 yX6_begin, .instanceMethod yX6_begin, .selects RX6 yX6_begin yX6_begin, .initialized RX6] ++ (wk_c_X11_hasSlot ++ (wsX110 ++ (wk_c_X6_begin_x ++ []))))
theorem wkg_c_X11_row_y : wk_c_X11_row_y.all goodWord = true := by decide +kernel
set_option maxHeartbeats 4000000 in
set_option maxRecDepth 100000 in
theorem c_X11_row_y (l : Launch) (dC : Nat → ClassId) (dI : Nat → Nat → Nat) (k : Nat → ClassId) (sz : Nat) (qX : Nat → Nat) (tapeX : Nat) (toldX : Nat) (actsX : Nat) (nowX : Nat) (trialX : Nat) (storyX : Nat) (attemptX : Nat) (orderSearchX : Nat) (routeSearchX : Nat) (setSearchX : Nat) (probeX : Nat) (image0X : Nat) (image1X : Nat) (image2X : Nat) (aX : Nat → Nat → Int32) (qL0 : Nat → Nat) (vL0 : Nat → Int32) (sL0 : Nat → Int32) (lL0 : Nat → Nat → Int64) (qL1 : Nat → Nat) (vL1 : Nat → Int32) (sL1 : Nat → Int32) (lL1 : Nat → Nat → Int64) (qL2 : Nat → Nat) (vL2 : Nat → Int32) (sL2 : Nat → Int32) (lL2 : Nat → Nat → Int64) (qL3 : Nat → Nat) (vL3 : Nat → Int32) (sL3 : Nat → Int32) (lL3 : Nat → Nat → Int64) (p1 : Int32) (p2 : Int32) (p3 : Int32) (hsL0 : Rg 0 60 sL0) (hsL1 : Rg 0 60 sL1) (hsL2 : Rg 0 60 sL2) (hsL3 : Rg 0 60 sL3) : Met l yX11_row wk_c_X11_row_y ({ frames := 1, cells := 0, slots := 0, locals := 23 }) (va_Pc [.ref (qX 0), .int p1, .int p2, .int p3] (fun U => U.heap.size = sz ∧ va_P (dC, dI) vwCl (List.flatten [(wSlot qL0 k vL0 sL0 lL0), (wSlot qL1 k vL1 sL1 lL1), (wSlot qL2 k vL2 sL2 lL2), (wSlot qL3 k vL3 sL3 lL3)] ++ List.flatten [(wSag qX k tapeX toldX actsX nowX trialX storyX attemptX orderSearchX routeSearchX setSearchX probeX (qL0 0) (qL1 0) (qL2 0) (qL3 0) image0X image1X image2X aX)]) U.heap ∧ va_K (dC, dI) vwCl (tK k) U ∧ va_D (fun _ => True) (List.flatten [(wSlot qL0 k vL0 sL0 lL0), (wSlot qL1 k vL1 sL1 lL1), (wSlot qL2 k vL2 sL2 lL2), (wSlot qL3 k vL3 sL3 lL3)] ++ List.flatten [(wSag qX k tapeX toldX actsX nowX trialX storyX attemptX orderSearchX routeSearchX setSearchX probeX (qL0 0) (qL1 0) (qL2 0) (qL3 0) image0X image1X image2X aX)]))) (va_Qi (fun (r : Int32) (_ : Unit) => (((p1.toInt < 0 ∨ 3 < p1.toInt ∨ p2.toInt < 0 ∨ 3 < p2.toInt ∨ 60 < p3.toInt) ∧ r.toInt = (-2)) ∨ (¬ (p1.toInt < 0 ∨ 3 < p1.toInt ∨ p2.toInt < 0 ∨ 3 < p2.toInt ∨ 60 < p3.toInt) ∧ p3.toInt < 0 ∧ r.toInt = (-3)) ∨ (¬ (p1.toInt < 0 ∨ 3 < p1.toInt ∨ p2.toInt < 0 ∨ 3 < p2.toInt ∨ 60 < p3.toInt) ∧ 0 ≤ p3.toInt ∧ r.toInt = 0))) (fun (_ : Unit) (t : State) => ∃ (vL0' : Nat → Int32) (sL0' : Nat → Int32) (lL0' : Nat → Nat → Int64) (vL1' : Nat → Int32) (sL1' : Nat → Int32) (lL1' : Nat → Nat → Int64) (vL2' : Nat → Int32) (sL2' : Nat → Int32) (lL2' : Nat → Nat → Int64) (vL3' : Nat → Int32) (sL3' : Nat → Int32) (lL3' : Nat → Nat → Int64), Rg 0 60 sL0' ∧ Rg 0 60 sL1' ∧ Rg 0 60 sL2' ∧ Rg 0 60 sL3' ∧ (((¬ (p1.toInt < 0 ∨ 3 < p1.toInt ∨ p2.toInt < 0 ∨ 3 < p2.toInt ∨ 60 < p3.toInt) ∧ 0 ≤ p3.toInt) ∧ p1.toInt = 0 ∧ (vL0' 0).toInt = 1 ∧ (vL0' 1).toInt = p2.toInt ∧ (sL0' 0).toInt = p3.toInt) ∨ (¬ ((¬ (p1.toInt < 0 ∨ 3 < p1.toInt ∨ p2.toInt < 0 ∨ 3 < p2.toInt ∨ 60 < p3.toInt) ∧ 0 ≤ p3.toInt) ∧ p1.toInt = 0) ∧ (vL0' 0).toInt = (vL0 0).toInt ∧ (vL0' 1).toInt = (vL0 1).toInt ∧ (sL0' 0).toInt = (sL0 0).toInt)) ∧ (((¬ (p1.toInt < 0 ∨ 3 < p1.toInt ∨ p2.toInt < 0 ∨ 3 < p2.toInt ∨ 60 < p3.toInt) ∧ 0 ≤ p3.toInt) ∧ p1.toInt = 1 ∧ (vL1' 0).toInt = 1 ∧ (vL1' 1).toInt = p2.toInt ∧ (sL1' 0).toInt = p3.toInt) ∨ (¬ ((¬ (p1.toInt < 0 ∨ 3 < p1.toInt ∨ p2.toInt < 0 ∨ 3 < p2.toInt ∨ 60 < p3.toInt) ∧ 0 ≤ p3.toInt) ∧ p1.toInt = 1) ∧ (vL1' 0).toInt = (vL1 0).toInt ∧ (vL1' 1).toInt = (vL1 1).toInt ∧ (sL1' 0).toInt = (sL1 0).toInt)) ∧ (((¬ (p1.toInt < 0 ∨ 3 < p1.toInt ∨ p2.toInt < 0 ∨ 3 < p2.toInt ∨ 60 < p3.toInt) ∧ 0 ≤ p3.toInt) ∧ p1.toInt = 2 ∧ (vL2' 0).toInt = 1 ∧ (vL2' 1).toInt = p2.toInt ∧ (sL2' 0).toInt = p3.toInt) ∨ (¬ ((¬ (p1.toInt < 0 ∨ 3 < p1.toInt ∨ p2.toInt < 0 ∨ 3 < p2.toInt ∨ 60 < p3.toInt) ∧ 0 ≤ p3.toInt) ∧ p1.toInt = 2) ∧ (vL2' 0).toInt = (vL2 0).toInt ∧ (vL2' 1).toInt = (vL2 1).toInt ∧ (sL2' 0).toInt = (sL2 0).toInt)) ∧ (((¬ (p1.toInt < 0 ∨ 3 < p1.toInt ∨ p2.toInt < 0 ∨ 3 < p2.toInt ∨ 60 < p3.toInt) ∧ 0 ≤ p3.toInt) ∧ p1.toInt = 3 ∧ (vL3' 0).toInt = 1 ∧ (vL3' 1).toInt = p2.toInt ∧ (sL3' 0).toInt = p3.toInt) ∨ (¬ ((¬ (p1.toInt < 0 ∨ 3 < p1.toInt ∨ p2.toInt < 0 ∨ 3 < p2.toInt ∨ 60 < p3.toInt) ∧ 0 ≤ p3.toInt) ∧ p1.toInt = 3) ∧ (vL3' 0).toInt = (vL3 0).toInt ∧ (vL3' 1).toInt = (vL3 1).toInt ∧ (sL3' 0).toInt = (sL3 0).toInt)) ∧ va_P (dC, dI) vwCl (List.flatten [(wSlot qL0 k vL0' sL0' lL0'), (wSlot qL1 k vL1' sL1' lL1'), (wSlot qL2 k vL2' sL2' lL2'), (wSlot qL3 k vL3' sL3' lL3')] ++ List.flatten [(wSag qX k tapeX toldX actsX nowX trialX storyX attemptX orderSearchX routeSearchX setSearchX probeX (qL0 0) (qL1 0) (qL2 0) (qL3 0) image0X image1X image2X aX)]) t.heap) (va_A (List.flatten [(wSlot qL0 k vL0 sL0 lL0), (wSlot qL1 k vL1 sL1 lL1), (wSlot qL2 k vL2 sL2 lL2), (wSlot qL3 k vL3 sL3 lL3)] ++ List.flatten [(wSag qX k tapeX toldX actsX nowX trialX storyX attemptX orderSearchX routeSearchX setSearchX probeX (qL0 0) (qL1 0) (qL2 0) (qL3 0) image0X image1X image2X aX)]) sz)) 0 0 (va_A (List.flatten [(wSlot qL0 k vL0 sL0 lL0), (wSlot qL1 k vL1 sL1 lL1), (wSlot qL2 k vL2 sL2 lL2), (wSlot qL3 k vL3 sL3 lL3)] ++ List.flatten [(wSag qX k tapeX toldX actsX nowX trialX storyX attemptX orderSearchX routeSearchX setSearchX probeX (qL0 0) (qL1 0) (qL2 0) (qL3 0) image0X image1X image2X aX)]) sz) := by
  refine Met.ofW (cc := cX11_row) (maxL := 4) (ret := (some .int)) (by decide) rfl ?_
  intro p e s m args below meth c s₁ B hml hv
  obtain ⟨rfl, hsz, hP, hK, hD0⟩ := hv
  have hx := B.exec
  have hb := B.bytes
  have hr := B.returns
  have hts := atoms_spec (ws := wk_c_X11_row_y) B.pre
  have hown : s.vm.findClass RX11 = some m.cls := findClass_of_methodNamed B.named
  have hlocks := B.notSynchronized
  subst hsz
  have hD := hD0.self (sz := s.heap.size)
  generalize hAe : va_A (List.flatten [(wSlot qL0 k vL0 sL0 lL0), (wSlot qL1 k vL1 sL1 lL1), (wSlot qL2 k vL2 sL2 lL2), (wSlot qL3 k vL3 sL3 lL3)] ++ List.flatten [(wSag qX k tapeX toldX actsX nowX trialX storyX attemptX orderSearchX routeSearchX setSearchX probeX (qL0 0) (qL1 0) (qL2 0) (qL3 0) image0X image1X image2X aX)]) s.heap.size = A at hD ⊢
  have hA : ∀ q : Nat, s.heap.size ≤ q → A q := fun q h => by rw [← hAe]; exact Or.inr h
  have hS : va_S A s.heap s.heap [] := va_S.rf
  have hP : va_P (dC, dI) vwCl (List.flatten [(wSlot qL0 k vL0 sL0 lL0), (wSlot qL1 k vL1 sL1 lL1), (wSlot qL2 k vL2 sL2 lL2), (wSlot qL3 k vL3 sL3 lL3)] ++ List.flatten [(wSag qX k tapeX toldX actsX nowX trialX storyX attemptX orderSearchX routeSearchX setSearchX probeX (qL0 0) (qL1 0) (qL2 0) (qL3 0) image0X image1X image2X aX)]) s.heap := hP
  have hl := lv_entry ([.ref (qX 0), .int p1, .int p2, .int p3]) (n := 4) (Nat.le_of_ble_eq_true rfl)
  rw [lg_entry_eq]
  generalize (lg_sl ([.ref (qX 0), .int p1, .int p2, .int p3]) ++ List.replicate (4 - (lg_sl ([.ref (qX 0), .int p1, .int p2, .int p3])).length) Slot.unset).toArray = ls at hl ⊢
  have hl : lv_has ls 4 [(0, .ref (qX 0)), (1, .int p1), (2, .int p2), (3, .int p3)] := hl
  refine w_gen (fun Q hQ => ?_)
  refine lv_iload_n hx hb dX11_row_0 rfl (lv_at hl 1 rfl) ?_
  have hPc : va_P (dC, dI) vwCl (List.flatten ([] : List va_W)) s.heap := fun k q h => by simp at h
  refine vp_callSi (va_Run.run (va_runS (As := [.int p1]) (rest := []) ⟨hx, hb, hml, hown, hts⟩ (c_X11_hasSlot l dC dI k p1) (va_cwS 1 hts (gk_S (wl_mem 0 rfl) (wl_mem 1 rfl) (wl_mem 2 rfl) (fun w h => List.mem_cons_of_mem _ (List.mem_append_right _ (List.mem_append_left _ h))) wkg_c_X11_hasSlot) rfl rfl rfl (by decide +kernel) ⟨Nat.le_of_ble_eq_true rfl, Nat.le_of_ble_eq_true rfl⟩) ⟨fun a U g mk q => by obtain ⟨q0, qP, qK⟩ := q; exact ⟨q0, qP, va_K.moved (u := U) (U := U.calling g mk a) (Vm.Alike.refl U.vm) qK⟩, fun U hU hW => ⟨rfl, by rw [hU]; exact hPc, va_K.moved hW.alike hK⟩⟩ rfl rfl hl.1 rfl (lv_room (Nat.le_of_ble_eq_true rfl)) dX11_row_1 ⟨Nat.le_of_ble_eq_true rfl, Nat.le_of_ble_eq_true rfl⟩)) (fun rz2 gz1 => ?_)
  clear hPc
  rcases gz1 with ⟨er, cz3⟩ | ⟨er, cz4, cz5⟩ | ⟨er, cz6, cz7⟩
  · obtain rfl := er.symm
    have bz8 := fb_rng p1
    have zz9 : p1.toInt < (0 : Int) := zi_lt.mp cz3
    refine lv_if_eq (tgt := 22) hx hb dX11_row_4 (by decide) (fun cz10 => ?_) (fun cz10 => ?_)
    · skip
      refine lv_bipush (v := (-2)) hx hb dX11_row_22 (by decide) ?_
      rw [hQ]
      exact W.iret (v := (-2 : Int32)) hx hb hr (fun t ht hW => ⟨⟨(-2 : Int32), (), rfl, (by show ((p1.toInt < 0 ∨ 3 < p1.toInt ∨ p2.toInt < 0 ∨ 3 < p2.toInt ∨ 60 < p3.toInt) ∧ (-2 : Int) = (-2)) ∨ (¬ (p1.toInt < 0 ∨ 3 < p1.toInt ∨ p2.toInt < 0 ∨ 3 < p2.toInt ∨ 60 < p3.toInt) ∧ p3.toInt < 0 ∧ (-2 : Int) = (-3)) ∨ (¬ (p1.toInt < 0 ∨ 3 < p1.toInt ∨ p2.toInt < 0 ∨ 3 < p2.toInt ∨ 60 < p3.toInt) ∧ 0 ≤ p3.toInt ∧ (-2 : Int) = 0); omega), vL0, sL0, lL0, vL1, sL1, lL1, vL2, sL2, lL2, vL3, sL3, lL3, hsL0, hsL1, hsL2, hsL3, (by show ((¬ (p1.toInt < 0 ∨ 3 < p1.toInt ∨ p2.toInt < 0 ∨ 3 < p2.toInt ∨ 60 < p3.toInt) ∧ 0 ≤ p3.toInt) ∧ p1.toInt = 0 ∧ (vL0 0).toInt = 1 ∧ (vL0 1).toInt = p2.toInt ∧ (sL0 0).toInt = p3.toInt) ∨ (¬ ((¬ (p1.toInt < 0 ∨ 3 < p1.toInt ∨ p2.toInt < 0 ∨ 3 < p2.toInt ∨ 60 < p3.toInt) ∧ 0 ≤ p3.toInt) ∧ p1.toInt = 0) ∧ (vL0 0).toInt = (vL0 0).toInt ∧ (vL0 1).toInt = (vL0 1).toInt ∧ (sL0 0).toInt = (sL0 0).toInt); omega), (by show ((¬ (p1.toInt < 0 ∨ 3 < p1.toInt ∨ p2.toInt < 0 ∨ 3 < p2.toInt ∨ 60 < p3.toInt) ∧ 0 ≤ p3.toInt) ∧ p1.toInt = 1 ∧ (vL1 0).toInt = 1 ∧ (vL1 1).toInt = p2.toInt ∧ (sL1 0).toInt = p3.toInt) ∨ (¬ ((¬ (p1.toInt < 0 ∨ 3 < p1.toInt ∨ p2.toInt < 0 ∨ 3 < p2.toInt ∨ 60 < p3.toInt) ∧ 0 ≤ p3.toInt) ∧ p1.toInt = 1) ∧ (vL1 0).toInt = (vL1 0).toInt ∧ (vL1 1).toInt = (vL1 1).toInt ∧ (sL1 0).toInt = (sL1 0).toInt); omega), (by show ((¬ (p1.toInt < 0 ∨ 3 < p1.toInt ∨ p2.toInt < 0 ∨ 3 < p2.toInt ∨ 60 < p3.toInt) ∧ 0 ≤ p3.toInt) ∧ p1.toInt = 2 ∧ (vL2 0).toInt = 1 ∧ (vL2 1).toInt = p2.toInt ∧ (sL2 0).toInt = p3.toInt) ∨ (¬ ((¬ (p1.toInt < 0 ∨ 3 < p1.toInt ∨ p2.toInt < 0 ∨ 3 < p2.toInt ∨ 60 < p3.toInt) ∧ 0 ≤ p3.toInt) ∧ p1.toInt = 2) ∧ (vL2 0).toInt = (vL2 0).toInt ∧ (vL2 1).toInt = (vL2 1).toInt ∧ (sL2 0).toInt = (sL2 0).toInt); omega), (by show ((¬ (p1.toInt < 0 ∨ 3 < p1.toInt ∨ p2.toInt < 0 ∨ 3 < p2.toInt ∨ 60 < p3.toInt) ∧ 0 ≤ p3.toInt) ∧ p1.toInt = 3 ∧ (vL3 0).toInt = 1 ∧ (vL3 1).toInt = p2.toInt ∧ (sL3 0).toInt = p3.toInt) ∨ (¬ ((¬ (p1.toInt < 0 ∨ 3 < p1.toInt ∨ p2.toInt < 0 ∨ 3 < p2.toInt ∨ 60 < p3.toInt) ∧ 0 ≤ p3.toInt) ∧ p1.toInt = 3) ∧ (vL3 0).toInt = (vL3 0).toInt ∧ (vL3 1).toInt = (vL3 1).toInt ∧ (sL3 0).toInt = (sL3 0).toInt); omega), by rw [ht]; exact hP⟩, hS.F ht⟩) hS.2.2 dX11_row_24
    · skip
      exact absurd cz10 (by decide)
  · obtain rfl := er.symm
    have bz11 := fb_rng p1
    have zz12 : ¬ p1.toInt < (0 : Int) := fun h9 => cz4 (zi_lt.mpr h9)
    have zz13 : (4 : Int) ≤ p1.toInt := zi_le.mp cz5
    refine lv_if_eq (tgt := 22) hx hb dX11_row_4 (by decide) (fun cz14 => ?_) (fun cz14 => ?_)
    · skip
      refine lv_bipush (v := (-2)) hx hb dX11_row_22 (by decide) ?_
      rw [hQ]
      exact W.iret (v := (-2 : Int32)) hx hb hr (fun t ht hW => ⟨⟨(-2 : Int32), (), rfl, (by show ((p1.toInt < 0 ∨ 3 < p1.toInt ∨ p2.toInt < 0 ∨ 3 < p2.toInt ∨ 60 < p3.toInt) ∧ (-2 : Int) = (-2)) ∨ (¬ (p1.toInt < 0 ∨ 3 < p1.toInt ∨ p2.toInt < 0 ∨ 3 < p2.toInt ∨ 60 < p3.toInt) ∧ p3.toInt < 0 ∧ (-2 : Int) = (-3)) ∨ (¬ (p1.toInt < 0 ∨ 3 < p1.toInt ∨ p2.toInt < 0 ∨ 3 < p2.toInt ∨ 60 < p3.toInt) ∧ 0 ≤ p3.toInt ∧ (-2 : Int) = 0); omega), vL0, sL0, lL0, vL1, sL1, lL1, vL2, sL2, lL2, vL3, sL3, lL3, hsL0, hsL1, hsL2, hsL3, (by show ((¬ (p1.toInt < 0 ∨ 3 < p1.toInt ∨ p2.toInt < 0 ∨ 3 < p2.toInt ∨ 60 < p3.toInt) ∧ 0 ≤ p3.toInt) ∧ p1.toInt = 0 ∧ (vL0 0).toInt = 1 ∧ (vL0 1).toInt = p2.toInt ∧ (sL0 0).toInt = p3.toInt) ∨ (¬ ((¬ (p1.toInt < 0 ∨ 3 < p1.toInt ∨ p2.toInt < 0 ∨ 3 < p2.toInt ∨ 60 < p3.toInt) ∧ 0 ≤ p3.toInt) ∧ p1.toInt = 0) ∧ (vL0 0).toInt = (vL0 0).toInt ∧ (vL0 1).toInt = (vL0 1).toInt ∧ (sL0 0).toInt = (sL0 0).toInt); omega), (by show ((¬ (p1.toInt < 0 ∨ 3 < p1.toInt ∨ p2.toInt < 0 ∨ 3 < p2.toInt ∨ 60 < p3.toInt) ∧ 0 ≤ p3.toInt) ∧ p1.toInt = 1 ∧ (vL1 0).toInt = 1 ∧ (vL1 1).toInt = p2.toInt ∧ (sL1 0).toInt = p3.toInt) ∨ (¬ ((¬ (p1.toInt < 0 ∨ 3 < p1.toInt ∨ p2.toInt < 0 ∨ 3 < p2.toInt ∨ 60 < p3.toInt) ∧ 0 ≤ p3.toInt) ∧ p1.toInt = 1) ∧ (vL1 0).toInt = (vL1 0).toInt ∧ (vL1 1).toInt = (vL1 1).toInt ∧ (sL1 0).toInt = (sL1 0).toInt); omega), (by show ((¬ (p1.toInt < 0 ∨ 3 < p1.toInt ∨ p2.toInt < 0 ∨ 3 < p2.toInt ∨ 60 < p3.toInt) ∧ 0 ≤ p3.toInt) ∧ p1.toInt = 2 ∧ (vL2 0).toInt = 1 ∧ (vL2 1).toInt = p2.toInt ∧ (sL2 0).toInt = p3.toInt) ∨ (¬ ((¬ (p1.toInt < 0 ∨ 3 < p1.toInt ∨ p2.toInt < 0 ∨ 3 < p2.toInt ∨ 60 < p3.toInt) ∧ 0 ≤ p3.toInt) ∧ p1.toInt = 2) ∧ (vL2 0).toInt = (vL2 0).toInt ∧ (vL2 1).toInt = (vL2 1).toInt ∧ (sL2 0).toInt = (sL2 0).toInt); omega), (by show ((¬ (p1.toInt < 0 ∨ 3 < p1.toInt ∨ p2.toInt < 0 ∨ 3 < p2.toInt ∨ 60 < p3.toInt) ∧ 0 ≤ p3.toInt) ∧ p1.toInt = 3 ∧ (vL3 0).toInt = 1 ∧ (vL3 1).toInt = p2.toInt ∧ (sL3 0).toInt = p3.toInt) ∨ (¬ ((¬ (p1.toInt < 0 ∨ 3 < p1.toInt ∨ p2.toInt < 0 ∨ 3 < p2.toInt ∨ 60 < p3.toInt) ∧ 0 ≤ p3.toInt) ∧ p1.toInt = 3) ∧ (vL3 0).toInt = (vL3 0).toInt ∧ (vL3 1).toInt = (vL3 1).toInt ∧ (sL3 0).toInt = (sL3 0).toInt); omega), by rw [ht]; exact hP⟩, hS.F ht⟩) hS.2.2 dX11_row_24
    · skip
      exact absurd cz14 (by decide)
  · obtain rfl := er.symm
    have bz15 := fb_rng p1
    have zz16 : ¬ p1.toInt < (0 : Int) := fun h9 => cz6 (zi_lt.mpr h9)
    have zz17 : ¬ (4 : Int) ≤ p1.toInt := fun h9 => cz7 (zi_le.mpr h9)
    refine lv_if_eq (tgt := 22) hx hb dX11_row_4 (by decide) (fun cz18 => ?_) (fun cz18 => ?_)
    · skip
      exact absurd cz18 (by decide)
    · skip
      refine lv_iload_n hx hb dX11_row_7 rfl (lv_at hl 2 rfl) ?_
      refine lv_if_lt (tgt := 22) hx hb dX11_row_8 (by decide) (fun cz19 => ?_) (fun cz19 => ?_)
      · skip
        have bz20 := fb_rng p2
        have zz21 : p2.toInt < (0 : Int) := zi_lt.mp cz19
        refine lv_bipush (v := (-2)) hx hb dX11_row_22 (by decide) ?_
        rw [hQ]
        exact W.iret (v := (-2 : Int32)) hx hb hr (fun t ht hW => ⟨⟨(-2 : Int32), (), rfl, (by show ((p1.toInt < 0 ∨ 3 < p1.toInt ∨ p2.toInt < 0 ∨ 3 < p2.toInt ∨ 60 < p3.toInt) ∧ (-2 : Int) = (-2)) ∨ (¬ (p1.toInt < 0 ∨ 3 < p1.toInt ∨ p2.toInt < 0 ∨ 3 < p2.toInt ∨ 60 < p3.toInt) ∧ p3.toInt < 0 ∧ (-2 : Int) = (-3)) ∨ (¬ (p1.toInt < 0 ∨ 3 < p1.toInt ∨ p2.toInt < 0 ∨ 3 < p2.toInt ∨ 60 < p3.toInt) ∧ 0 ≤ p3.toInt ∧ (-2 : Int) = 0); omega), vL0, sL0, lL0, vL1, sL1, lL1, vL2, sL2, lL2, vL3, sL3, lL3, hsL0, hsL1, hsL2, hsL3, (by show ((¬ (p1.toInt < 0 ∨ 3 < p1.toInt ∨ p2.toInt < 0 ∨ 3 < p2.toInt ∨ 60 < p3.toInt) ∧ 0 ≤ p3.toInt) ∧ p1.toInt = 0 ∧ (vL0 0).toInt = 1 ∧ (vL0 1).toInt = p2.toInt ∧ (sL0 0).toInt = p3.toInt) ∨ (¬ ((¬ (p1.toInt < 0 ∨ 3 < p1.toInt ∨ p2.toInt < 0 ∨ 3 < p2.toInt ∨ 60 < p3.toInt) ∧ 0 ≤ p3.toInt) ∧ p1.toInt = 0) ∧ (vL0 0).toInt = (vL0 0).toInt ∧ (vL0 1).toInt = (vL0 1).toInt ∧ (sL0 0).toInt = (sL0 0).toInt); omega), (by show ((¬ (p1.toInt < 0 ∨ 3 < p1.toInt ∨ p2.toInt < 0 ∨ 3 < p2.toInt ∨ 60 < p3.toInt) ∧ 0 ≤ p3.toInt) ∧ p1.toInt = 1 ∧ (vL1 0).toInt = 1 ∧ (vL1 1).toInt = p2.toInt ∧ (sL1 0).toInt = p3.toInt) ∨ (¬ ((¬ (p1.toInt < 0 ∨ 3 < p1.toInt ∨ p2.toInt < 0 ∨ 3 < p2.toInt ∨ 60 < p3.toInt) ∧ 0 ≤ p3.toInt) ∧ p1.toInt = 1) ∧ (vL1 0).toInt = (vL1 0).toInt ∧ (vL1 1).toInt = (vL1 1).toInt ∧ (sL1 0).toInt = (sL1 0).toInt); omega), (by show ((¬ (p1.toInt < 0 ∨ 3 < p1.toInt ∨ p2.toInt < 0 ∨ 3 < p2.toInt ∨ 60 < p3.toInt) ∧ 0 ≤ p3.toInt) ∧ p1.toInt = 2 ∧ (vL2 0).toInt = 1 ∧ (vL2 1).toInt = p2.toInt ∧ (sL2 0).toInt = p3.toInt) ∨ (¬ ((¬ (p1.toInt < 0 ∨ 3 < p1.toInt ∨ p2.toInt < 0 ∨ 3 < p2.toInt ∨ 60 < p3.toInt) ∧ 0 ≤ p3.toInt) ∧ p1.toInt = 2) ∧ (vL2 0).toInt = (vL2 0).toInt ∧ (vL2 1).toInt = (vL2 1).toInt ∧ (sL2 0).toInt = (sL2 0).toInt); omega), (by show ((¬ (p1.toInt < 0 ∨ 3 < p1.toInt ∨ p2.toInt < 0 ∨ 3 < p2.toInt ∨ 60 < p3.toInt) ∧ 0 ≤ p3.toInt) ∧ p1.toInt = 3 ∧ (vL3 0).toInt = 1 ∧ (vL3 1).toInt = p2.toInt ∧ (sL3 0).toInt = p3.toInt) ∨ (¬ ((¬ (p1.toInt < 0 ∨ 3 < p1.toInt ∨ p2.toInt < 0 ∨ 3 < p2.toInt ∨ 60 < p3.toInt) ∧ 0 ≤ p3.toInt) ∧ p1.toInt = 3) ∧ (vL3 0).toInt = (vL3 0).toInt ∧ (vL3 1).toInt = (vL3 1).toInt ∧ (sL3 0).toInt = (sL3 0).toInt); omega), by rw [ht]; exact hP⟩, hS.F ht⟩) hS.2.2 dX11_row_24
      · skip
        have bz22 := fb_rng p2
        have zz23 : ¬ p2.toInt < (0 : Int) := fun h9 => cz19 (zi_lt.mpr h9)
        refine lv_iload_n hx hb dX11_row_11 rfl (lv_at hl 2 rfl) ?_
        refine lv_iconst (v := 4) hx hb dX11_row_12 (by decide) ?_
        refine lv_icmp_ge (tgt := 22) hx hb dX11_row_13 (by decide) (fun cz24 => ?_) (fun cz24 => ?_)
        · skip
          have zz25 : (4 : Int) ≤ p2.toInt := zi_le.mp cz24
          refine lv_bipush (v := (-2)) hx hb dX11_row_22 (by decide) ?_
          rw [hQ]
          exact W.iret (v := (-2 : Int32)) hx hb hr (fun t ht hW => ⟨⟨(-2 : Int32), (), rfl, (by show ((p1.toInt < 0 ∨ 3 < p1.toInt ∨ p2.toInt < 0 ∨ 3 < p2.toInt ∨ 60 < p3.toInt) ∧ (-2 : Int) = (-2)) ∨ (¬ (p1.toInt < 0 ∨ 3 < p1.toInt ∨ p2.toInt < 0 ∨ 3 < p2.toInt ∨ 60 < p3.toInt) ∧ p3.toInt < 0 ∧ (-2 : Int) = (-3)) ∨ (¬ (p1.toInt < 0 ∨ 3 < p1.toInt ∨ p2.toInt < 0 ∨ 3 < p2.toInt ∨ 60 < p3.toInt) ∧ 0 ≤ p3.toInt ∧ (-2 : Int) = 0); omega), vL0, sL0, lL0, vL1, sL1, lL1, vL2, sL2, lL2, vL3, sL3, lL3, hsL0, hsL1, hsL2, hsL3, (by show ((¬ (p1.toInt < 0 ∨ 3 < p1.toInt ∨ p2.toInt < 0 ∨ 3 < p2.toInt ∨ 60 < p3.toInt) ∧ 0 ≤ p3.toInt) ∧ p1.toInt = 0 ∧ (vL0 0).toInt = 1 ∧ (vL0 1).toInt = p2.toInt ∧ (sL0 0).toInt = p3.toInt) ∨ (¬ ((¬ (p1.toInt < 0 ∨ 3 < p1.toInt ∨ p2.toInt < 0 ∨ 3 < p2.toInt ∨ 60 < p3.toInt) ∧ 0 ≤ p3.toInt) ∧ p1.toInt = 0) ∧ (vL0 0).toInt = (vL0 0).toInt ∧ (vL0 1).toInt = (vL0 1).toInt ∧ (sL0 0).toInt = (sL0 0).toInt); omega), (by show ((¬ (p1.toInt < 0 ∨ 3 < p1.toInt ∨ p2.toInt < 0 ∨ 3 < p2.toInt ∨ 60 < p3.toInt) ∧ 0 ≤ p3.toInt) ∧ p1.toInt = 1 ∧ (vL1 0).toInt = 1 ∧ (vL1 1).toInt = p2.toInt ∧ (sL1 0).toInt = p3.toInt) ∨ (¬ ((¬ (p1.toInt < 0 ∨ 3 < p1.toInt ∨ p2.toInt < 0 ∨ 3 < p2.toInt ∨ 60 < p3.toInt) ∧ 0 ≤ p3.toInt) ∧ p1.toInt = 1) ∧ (vL1 0).toInt = (vL1 0).toInt ∧ (vL1 1).toInt = (vL1 1).toInt ∧ (sL1 0).toInt = (sL1 0).toInt); omega), (by show ((¬ (p1.toInt < 0 ∨ 3 < p1.toInt ∨ p2.toInt < 0 ∨ 3 < p2.toInt ∨ 60 < p3.toInt) ∧ 0 ≤ p3.toInt) ∧ p1.toInt = 2 ∧ (vL2 0).toInt = 1 ∧ (vL2 1).toInt = p2.toInt ∧ (sL2 0).toInt = p3.toInt) ∨ (¬ ((¬ (p1.toInt < 0 ∨ 3 < p1.toInt ∨ p2.toInt < 0 ∨ 3 < p2.toInt ∨ 60 < p3.toInt) ∧ 0 ≤ p3.toInt) ∧ p1.toInt = 2) ∧ (vL2 0).toInt = (vL2 0).toInt ∧ (vL2 1).toInt = (vL2 1).toInt ∧ (sL2 0).toInt = (sL2 0).toInt); omega), (by show ((¬ (p1.toInt < 0 ∨ 3 < p1.toInt ∨ p2.toInt < 0 ∨ 3 < p2.toInt ∨ 60 < p3.toInt) ∧ 0 ≤ p3.toInt) ∧ p1.toInt = 3 ∧ (vL3 0).toInt = 1 ∧ (vL3 1).toInt = p2.toInt ∧ (sL3 0).toInt = p3.toInt) ∨ (¬ ((¬ (p1.toInt < 0 ∨ 3 < p1.toInt ∨ p2.toInt < 0 ∨ 3 < p2.toInt ∨ 60 < p3.toInt) ∧ 0 ≤ p3.toInt) ∧ p1.toInt = 3) ∧ (vL3 0).toInt = (vL3 0).toInt ∧ (vL3 1).toInt = (vL3 1).toInt ∧ (sL3 0).toInt = (sL3 0).toInt); omega), by rw [ht]; exact hP⟩, hS.F ht⟩) hS.2.2 dX11_row_24
        · skip
          have zz26 : ¬ (4 : Int) ≤ p2.toInt := fun h9 => cz24 (zi_le.mpr h9)
          refine lv_iload_n hx hb dX11_row_16 rfl (lv_at hl 3 rfl) ?_
          refine lv_bipush (v := 60) hx hb dX11_row_17 (by decide) ?_
          refine lv_icmp_le (tgt := 25) hx hb dX11_row_19 (by decide) (fun cz27 => ?_) (fun cz27 => ?_)
          · skip
            have bz28 := fb_rng p3
            have zz29 : p3.toInt ≤ (60 : Int) := zi_le.mp cz27
            refine lv_iload_n hx hb dX11_row_25 rfl (lv_at hl 3 rfl) ?_
            refine lv_if_ge (tgt := 32) hx hb dX11_row_26 (by decide) (fun cz30 => ?_) (fun cz30 => ?_)
            · skip
              have zz31 : (0 : Int) ≤ p3.toInt := zi_le.mp cz30
              refine lv_aload_n hx hb dX11_row_32 rfl (lv_at hl 0 rfl) ?_
              refine va_get (D := (dC, dI)) (ci := 11) (v := .ref (qX 3)) (C := RX11) (T := TX11) (N := 15) hx hb hts (fun w h => List.mem_cons_of_mem _ (List.mem_append_right _ (List.mem_append_right _ (List.mem_append_left _ h)))) hown hK hP 8 rfl rfl 13 (by decide) (hts (.fieldLink RX11 85 "SagMemory" "slots" "[LSagMemory$Slot;") (wl_mem 3 rfl)) (fun _ h9 => h9) rfl dX11_row_33 ?_
              refine lv_iload_n hx hb dX11_row_36 rfl (lv_at hl 1 rfl) ?_
              rcases (show p1 = 0 ∨ p1 = 1 ∨ p1 = 2 ∨ p1 = 3 by simp only [zi_eq]; show p1.toInt = 0 ∨ p1.toInt = 1 ∨ p1.toInt = 2 ∨ p1.toInt = 3; omega) with cz32 | cz32 | cz32 | cz32
              · skip
                have zz33 : p1.toInt = (0 : Int) := zi_eq.mp cz32
                refine W.eq (g2 := F0 m 37 ls [.int 0, .ref (qX 3)]) (by rw [cz32]) ?_
                refine va_aldq hx hb hK hP 11 6 rfl rfl (by unfold vp_in; decide) dX11_row_37 ?_
                refine W.eq (g2 := F0 m 38 ls [.ref (qL0 0)]) rfl ?_
                refine lv_iload_n hx hb dX11_row_38 rfl (lv_at hl 2 rfl) ?_
                refine lv_iload_n hx hb dX11_row_39 rfl (lv_at hl 3 rfl) ?_
                have hPc := hP.sub (ws' := (List.flatten [(wSlot qL0 k vL0 sL0 lL0)] ++ List.flatten ([] : List va_W))) [0, 1] rfl
                have hC : [0, 1].map (fun i => (List.flatten [(wSlot qL0 k vL0 sL0 lL0), (wSlot qL1 k vL1 sL1 lL1), (wSlot qL2 k vL2 sL2 lL2), (wSlot qL3 k vL3 sL3 lL3)] ++ List.flatten [(wSag qX k tapeX toldX actsX nowX trialX storyX attemptX orderSearchX routeSearchX setSearchX probeX (qL0 0) (qL1 0) (qL2 0) (qL3 0) image0X image1X image2X aX)])[i]?) = (List.flatten [(wSlot qL0 k vL0 sL0 lL0)] ++ List.flatten ([] : List va_W)).map some := rfl
                have hDc := hD.sub [0, 1] (by decide) hC
                have hFc := va_free hD hS hA [0, 1] hC
                refine va_callv (va_runV (As := [.int p2, .int p3]) (rest := []) ⟨hx, hb, hml, hown, hts⟩ (c_X6_begin_x l dC dI k s.heap.size qL0 vL0 sL0 lL0 p2 p3 hsL0 (by show 0 ≤ p3.toInt ∧ p3.toInt ≤ 60; omega)) (cwV 2 hts (gk_V (wl_mem 4 rfl) (wl_mem 5 rfl) (wl_mem 6 rfl) (wl_mem 7 rfl) (fun w h => List.mem_cons_of_mem _ (List.mem_append_right _ (List.mem_append_right _ (List.mem_append_right _ (List.mem_append_left _ h))))) wkg_c_X6_begin_x) rfl rfl rfl (by decide +kernel) ⟨Nat.le_of_ble_eq_true rfl, Nat.le_of_ble_eq_true rfl⟩) ⟨fun a U g mk q => by obtain ⟨q0, q1, qP, qK, qD⟩ := q; exact ⟨q0, q1, qP, va_K.moved (u := U) (U := U.calling g mk a) (Vm.Alike.refl U.vm) qK, qD⟩, va_recv hK hPc (ci := 6) (q0 := 0) rfl rfl, fun U hU hW => ⟨rfl, by rw [hU], by rw [hU]; exact hPc, va_K.moved hW.alike hK, hDc.weaken (fun _ _ _ _ => trivial)⟩⟩ rfl rfl hl.1 rfl (lv_room (Nat.le_of_ble_eq_true rfl)) dX11_row_40 ⟨Nat.le_of_ble_eq_true rfl, Nat.le_of_ble_eq_true rfl⟩) hS (fun q _ h => hFc q h) hFc (fun u t H1 locs ht hvm gz34 hB hz1 hk1 hS => ?_)
                obtain ⟨vz36, sz37, lz38, hsz37, pz39, pz40, pz41, hP1⟩ := hB
                rw [ht] at hP1
                obtain ⟨hP, hD⟩ := w_callR hP hD hk1 hP1 [0] rfl rfl (fun _ h => absurd h List.not_mem_nil) rfl [some 0, none, none, none] rfl rfl
                clear hPc hC hDc hFc hk1 hP1
                generalize H1 = H at hP hS ⊢
                have hP : va_P (dC, dI) vwCl (List.flatten [(wSlot qL0 k vz36 sz37 lz38), (wSlot qL1 k vL1 sL1 lL1), (wSlot qL2 k vL2 sL2 lL2), (wSlot qL3 k vL3 sL3 lL3)] ++ List.flatten [(wSag qX k tapeX toldX actsX nowX trialX storyX attemptX orderSearchX routeSearchX setSearchX probeX (qL0 0) (qL1 0) (qL2 0) (qL3 0) image0X image1X image2X aX)]) H := hP
                have hD : va_D A (List.flatten [(wSlot qL0 k vz36 sz37 lz38), (wSlot qL1 k vL1 sL1 lL1), (wSlot qL2 k vL2 sL2 lL2), (wSlot qL3 k vL3 sL3 lL3)] ++ List.flatten [(wSag qX k tapeX toldX actsX nowX trialX storyX attemptX orderSearchX routeSearchX setSearchX probeX (qL0 0) (qL1 0) (qL2 0) (qL3 0) image0X image1X image2X aX)]) := hD
                refine W.widen (k := 0) (n := 0) (Nat.le_refl 0) (Nat.le_refl 0) ?_
                have pz39 : (vz36 0).toInt = 1 := pz39
                have pz40 : (vz36 1).toInt = p2.toInt := pz40
                have pz41 : (sz37 0).toInt = p3.toInt := pz41
                refine lv_iconst (v := 0) hx hb dX11_row_43 (by decide) ?_
                rw [hQ]
                exact W.iret (v := (0 : Int32)) hx hb hr (fun t ht hW => ⟨⟨(0 : Int32), (), rfl, (by show ((p1.toInt < 0 ∨ 3 < p1.toInt ∨ p2.toInt < 0 ∨ 3 < p2.toInt ∨ 60 < p3.toInt) ∧ (0 : Int) = (-2)) ∨ (¬ (p1.toInt < 0 ∨ 3 < p1.toInt ∨ p2.toInt < 0 ∨ 3 < p2.toInt ∨ 60 < p3.toInt) ∧ p3.toInt < 0 ∧ (0 : Int) = (-3)) ∨ (¬ (p1.toInt < 0 ∨ 3 < p1.toInt ∨ p2.toInt < 0 ∨ 3 < p2.toInt ∨ 60 < p3.toInt) ∧ 0 ≤ p3.toInt ∧ (0 : Int) = 0); omega), vz36, sz37, lz38, vL1, sL1, lL1, vL2, sL2, lL2, vL3, sL3, lL3, hsz37, hsL1, hsL2, hsL3, (by show ((¬ (p1.toInt < 0 ∨ 3 < p1.toInt ∨ p2.toInt < 0 ∨ 3 < p2.toInt ∨ 60 < p3.toInt) ∧ 0 ≤ p3.toInt) ∧ p1.toInt = 0 ∧ (vz36 0).toInt = 1 ∧ (vz36 1).toInt = p2.toInt ∧ (sz37 0).toInt = p3.toInt) ∨ (¬ ((¬ (p1.toInt < 0 ∨ 3 < p1.toInt ∨ p2.toInt < 0 ∨ 3 < p2.toInt ∨ 60 < p3.toInt) ∧ 0 ≤ p3.toInt) ∧ p1.toInt = 0) ∧ (vz36 0).toInt = (vL0 0).toInt ∧ (vz36 1).toInt = (vL0 1).toInt ∧ (sz37 0).toInt = (sL0 0).toInt); omega), (by show ((¬ (p1.toInt < 0 ∨ 3 < p1.toInt ∨ p2.toInt < 0 ∨ 3 < p2.toInt ∨ 60 < p3.toInt) ∧ 0 ≤ p3.toInt) ∧ p1.toInt = 1 ∧ (vL1 0).toInt = 1 ∧ (vL1 1).toInt = p2.toInt ∧ (sL1 0).toInt = p3.toInt) ∨ (¬ ((¬ (p1.toInt < 0 ∨ 3 < p1.toInt ∨ p2.toInt < 0 ∨ 3 < p2.toInt ∨ 60 < p3.toInt) ∧ 0 ≤ p3.toInt) ∧ p1.toInt = 1) ∧ (vL1 0).toInt = (vL1 0).toInt ∧ (vL1 1).toInt = (vL1 1).toInt ∧ (sL1 0).toInt = (sL1 0).toInt); omega), (by show ((¬ (p1.toInt < 0 ∨ 3 < p1.toInt ∨ p2.toInt < 0 ∨ 3 < p2.toInt ∨ 60 < p3.toInt) ∧ 0 ≤ p3.toInt) ∧ p1.toInt = 2 ∧ (vL2 0).toInt = 1 ∧ (vL2 1).toInt = p2.toInt ∧ (sL2 0).toInt = p3.toInt) ∨ (¬ ((¬ (p1.toInt < 0 ∨ 3 < p1.toInt ∨ p2.toInt < 0 ∨ 3 < p2.toInt ∨ 60 < p3.toInt) ∧ 0 ≤ p3.toInt) ∧ p1.toInt = 2) ∧ (vL2 0).toInt = (vL2 0).toInt ∧ (vL2 1).toInt = (vL2 1).toInt ∧ (sL2 0).toInt = (sL2 0).toInt); omega), (by show ((¬ (p1.toInt < 0 ∨ 3 < p1.toInt ∨ p2.toInt < 0 ∨ 3 < p2.toInt ∨ 60 < p3.toInt) ∧ 0 ≤ p3.toInt) ∧ p1.toInt = 3 ∧ (vL3 0).toInt = 1 ∧ (vL3 1).toInt = p2.toInt ∧ (sL3 0).toInt = p3.toInt) ∨ (¬ ((¬ (p1.toInt < 0 ∨ 3 < p1.toInt ∨ p2.toInt < 0 ∨ 3 < p2.toInt ∨ 60 < p3.toInt) ∧ 0 ≤ p3.toInt) ∧ p1.toInt = 3) ∧ (vL3 0).toInt = (vL3 0).toInt ∧ (vL3 1).toInt = (vL3 1).toInt ∧ (sL3 0).toInt = (sL3 0).toInt); omega), by rw [ht]; exact hP⟩, hS.F ht⟩) hS.2.2 dX11_row_44
              · skip
                have zz42 : p1.toInt = (1 : Int) := zi_eq.mp cz32
                refine W.eq (g2 := F0 m 37 ls [.int 1, .ref (qX 3)]) (by rw [cz32]) ?_
                refine va_aldq hx hb hK hP 11 6 rfl rfl (by unfold vp_in; decide) dX11_row_37 ?_
                refine W.eq (g2 := F0 m 38 ls [.ref (qL1 0)]) rfl ?_
                refine lv_iload_n hx hb dX11_row_38 rfl (lv_at hl 2 rfl) ?_
                refine lv_iload_n hx hb dX11_row_39 rfl (lv_at hl 3 rfl) ?_
                have hPc := hP.sub (ws' := (List.flatten [(wSlot qL1 k vL1 sL1 lL1)] ++ List.flatten ([] : List va_W))) [2, 3] rfl
                have hC : [2, 3].map (fun i => (List.flatten [(wSlot qL0 k vL0 sL0 lL0), (wSlot qL1 k vL1 sL1 lL1), (wSlot qL2 k vL2 sL2 lL2), (wSlot qL3 k vL3 sL3 lL3)] ++ List.flatten [(wSag qX k tapeX toldX actsX nowX trialX storyX attemptX orderSearchX routeSearchX setSearchX probeX (qL0 0) (qL1 0) (qL2 0) (qL3 0) image0X image1X image2X aX)])[i]?) = (List.flatten [(wSlot qL1 k vL1 sL1 lL1)] ++ List.flatten ([] : List va_W)).map some := rfl
                have hDc := hD.sub [2, 3] (by decide) hC
                have hFc := va_free hD hS hA [2, 3] hC
                refine va_callv (va_runV (As := [.int p2, .int p3]) (rest := []) ⟨hx, hb, hml, hown, hts⟩ (c_X6_begin_x l dC dI k s.heap.size qL1 vL1 sL1 lL1 p2 p3 hsL1 (by show 0 ≤ p3.toInt ∧ p3.toInt ≤ 60; omega)) (cwV 2 hts (gk_V (wl_mem 4 rfl) (wl_mem 5 rfl) (wl_mem 6 rfl) (wl_mem 7 rfl) (fun w h => List.mem_cons_of_mem _ (List.mem_append_right _ (List.mem_append_right _ (List.mem_append_right _ (List.mem_append_left _ h))))) wkg_c_X6_begin_x) rfl rfl rfl (by decide +kernel) ⟨Nat.le_of_ble_eq_true rfl, Nat.le_of_ble_eq_true rfl⟩) ⟨fun a U g mk q => by obtain ⟨q0, q1, qP, qK, qD⟩ := q; exact ⟨q0, q1, qP, va_K.moved (u := U) (U := U.calling g mk a) (Vm.Alike.refl U.vm) qK, qD⟩, va_recv hK hPc (ci := 6) (q0 := 0) rfl rfl, fun U hU hW => ⟨rfl, by rw [hU], by rw [hU]; exact hPc, va_K.moved hW.alike hK, hDc.weaken (fun _ _ _ _ => trivial)⟩⟩ rfl rfl hl.1 rfl (lv_room (Nat.le_of_ble_eq_true rfl)) dX11_row_40 ⟨Nat.le_of_ble_eq_true rfl, Nat.le_of_ble_eq_true rfl⟩) hS (fun q _ h => hFc q h) hFc (fun u t H1 locs ht hvm gz43 hB hz1 hk1 hS => ?_)
                obtain ⟨vz45, sz46, lz47, hsz46, pz48, pz49, pz50, hP1⟩ := hB
                rw [ht] at hP1
                obtain ⟨hP, hD⟩ := w_callR hP hD hk1 hP1 [1] rfl rfl (fun _ h => absurd h List.not_mem_nil) rfl [none, some 0, none, none] rfl rfl
                clear hPc hC hDc hFc hk1 hP1
                generalize H1 = H at hP hS ⊢
                have hP : va_P (dC, dI) vwCl (List.flatten [(wSlot qL0 k vL0 sL0 lL0), (wSlot qL1 k vz45 sz46 lz47), (wSlot qL2 k vL2 sL2 lL2), (wSlot qL3 k vL3 sL3 lL3)] ++ List.flatten [(wSag qX k tapeX toldX actsX nowX trialX storyX attemptX orderSearchX routeSearchX setSearchX probeX (qL0 0) (qL1 0) (qL2 0) (qL3 0) image0X image1X image2X aX)]) H := hP
                have hD : va_D A (List.flatten [(wSlot qL0 k vL0 sL0 lL0), (wSlot qL1 k vz45 sz46 lz47), (wSlot qL2 k vL2 sL2 lL2), (wSlot qL3 k vL3 sL3 lL3)] ++ List.flatten [(wSag qX k tapeX toldX actsX nowX trialX storyX attemptX orderSearchX routeSearchX setSearchX probeX (qL0 0) (qL1 0) (qL2 0) (qL3 0) image0X image1X image2X aX)]) := hD
                refine W.widen (k := 0) (n := 0) (Nat.le_refl 0) (Nat.le_refl 0) ?_
                have pz48 : (vz45 0).toInt = 1 := pz48
                have pz49 : (vz45 1).toInt = p2.toInt := pz49
                have pz50 : (sz46 0).toInt = p3.toInt := pz50
                refine lv_iconst (v := 0) hx hb dX11_row_43 (by decide) ?_
                rw [hQ]
                exact W.iret (v := (0 : Int32)) hx hb hr (fun t ht hW => ⟨⟨(0 : Int32), (), rfl, (by show ((p1.toInt < 0 ∨ 3 < p1.toInt ∨ p2.toInt < 0 ∨ 3 < p2.toInt ∨ 60 < p3.toInt) ∧ (0 : Int) = (-2)) ∨ (¬ (p1.toInt < 0 ∨ 3 < p1.toInt ∨ p2.toInt < 0 ∨ 3 < p2.toInt ∨ 60 < p3.toInt) ∧ p3.toInt < 0 ∧ (0 : Int) = (-3)) ∨ (¬ (p1.toInt < 0 ∨ 3 < p1.toInt ∨ p2.toInt < 0 ∨ 3 < p2.toInt ∨ 60 < p3.toInt) ∧ 0 ≤ p3.toInt ∧ (0 : Int) = 0); omega), vL0, sL0, lL0, vz45, sz46, lz47, vL2, sL2, lL2, vL3, sL3, lL3, hsL0, hsz46, hsL2, hsL3, (by show ((¬ (p1.toInt < 0 ∨ 3 < p1.toInt ∨ p2.toInt < 0 ∨ 3 < p2.toInt ∨ 60 < p3.toInt) ∧ 0 ≤ p3.toInt) ∧ p1.toInt = 0 ∧ (vL0 0).toInt = 1 ∧ (vL0 1).toInt = p2.toInt ∧ (sL0 0).toInt = p3.toInt) ∨ (¬ ((¬ (p1.toInt < 0 ∨ 3 < p1.toInt ∨ p2.toInt < 0 ∨ 3 < p2.toInt ∨ 60 < p3.toInt) ∧ 0 ≤ p3.toInt) ∧ p1.toInt = 0) ∧ (vL0 0).toInt = (vL0 0).toInt ∧ (vL0 1).toInt = (vL0 1).toInt ∧ (sL0 0).toInt = (sL0 0).toInt); omega), (by show ((¬ (p1.toInt < 0 ∨ 3 < p1.toInt ∨ p2.toInt < 0 ∨ 3 < p2.toInt ∨ 60 < p3.toInt) ∧ 0 ≤ p3.toInt) ∧ p1.toInt = 1 ∧ (vz45 0).toInt = 1 ∧ (vz45 1).toInt = p2.toInt ∧ (sz46 0).toInt = p3.toInt) ∨ (¬ ((¬ (p1.toInt < 0 ∨ 3 < p1.toInt ∨ p2.toInt < 0 ∨ 3 < p2.toInt ∨ 60 < p3.toInt) ∧ 0 ≤ p3.toInt) ∧ p1.toInt = 1) ∧ (vz45 0).toInt = (vL1 0).toInt ∧ (vz45 1).toInt = (vL1 1).toInt ∧ (sz46 0).toInt = (sL1 0).toInt); omega), (by show ((¬ (p1.toInt < 0 ∨ 3 < p1.toInt ∨ p2.toInt < 0 ∨ 3 < p2.toInt ∨ 60 < p3.toInt) ∧ 0 ≤ p3.toInt) ∧ p1.toInt = 2 ∧ (vL2 0).toInt = 1 ∧ (vL2 1).toInt = p2.toInt ∧ (sL2 0).toInt = p3.toInt) ∨ (¬ ((¬ (p1.toInt < 0 ∨ 3 < p1.toInt ∨ p2.toInt < 0 ∨ 3 < p2.toInt ∨ 60 < p3.toInt) ∧ 0 ≤ p3.toInt) ∧ p1.toInt = 2) ∧ (vL2 0).toInt = (vL2 0).toInt ∧ (vL2 1).toInt = (vL2 1).toInt ∧ (sL2 0).toInt = (sL2 0).toInt); omega), (by show ((¬ (p1.toInt < 0 ∨ 3 < p1.toInt ∨ p2.toInt < 0 ∨ 3 < p2.toInt ∨ 60 < p3.toInt) ∧ 0 ≤ p3.toInt) ∧ p1.toInt = 3 ∧ (vL3 0).toInt = 1 ∧ (vL3 1).toInt = p2.toInt ∧ (sL3 0).toInt = p3.toInt) ∨ (¬ ((¬ (p1.toInt < 0 ∨ 3 < p1.toInt ∨ p2.toInt < 0 ∨ 3 < p2.toInt ∨ 60 < p3.toInt) ∧ 0 ≤ p3.toInt) ∧ p1.toInt = 3) ∧ (vL3 0).toInt = (vL3 0).toInt ∧ (vL3 1).toInt = (vL3 1).toInt ∧ (sL3 0).toInt = (sL3 0).toInt); omega), by rw [ht]; exact hP⟩, hS.F ht⟩) hS.2.2 dX11_row_44
              · skip
                have zz51 : p1.toInt = (2 : Int) := zi_eq.mp cz32
                refine W.eq (g2 := F0 m 37 ls [.int 2, .ref (qX 3)]) (by rw [cz32]) ?_
                refine va_aldq hx hb hK hP 11 6 rfl rfl (by unfold vp_in; decide) dX11_row_37 ?_
                refine W.eq (g2 := F0 m 38 ls [.ref (qL2 0)]) rfl ?_
                refine lv_iload_n hx hb dX11_row_38 rfl (lv_at hl 2 rfl) ?_
                refine lv_iload_n hx hb dX11_row_39 rfl (lv_at hl 3 rfl) ?_
                have hPc := hP.sub (ws' := (List.flatten [(wSlot qL2 k vL2 sL2 lL2)] ++ List.flatten ([] : List va_W))) [4, 5] rfl
                have hC : [4, 5].map (fun i => (List.flatten [(wSlot qL0 k vL0 sL0 lL0), (wSlot qL1 k vL1 sL1 lL1), (wSlot qL2 k vL2 sL2 lL2), (wSlot qL3 k vL3 sL3 lL3)] ++ List.flatten [(wSag qX k tapeX toldX actsX nowX trialX storyX attemptX orderSearchX routeSearchX setSearchX probeX (qL0 0) (qL1 0) (qL2 0) (qL3 0) image0X image1X image2X aX)])[i]?) = (List.flatten [(wSlot qL2 k vL2 sL2 lL2)] ++ List.flatten ([] : List va_W)).map some := rfl
                have hDc := hD.sub [4, 5] (by decide) hC
                have hFc := va_free hD hS hA [4, 5] hC
                refine va_callv (va_runV (As := [.int p2, .int p3]) (rest := []) ⟨hx, hb, hml, hown, hts⟩ (c_X6_begin_x l dC dI k s.heap.size qL2 vL2 sL2 lL2 p2 p3 hsL2 (by show 0 ≤ p3.toInt ∧ p3.toInt ≤ 60; omega)) (cwV 2 hts (gk_V (wl_mem 4 rfl) (wl_mem 5 rfl) (wl_mem 6 rfl) (wl_mem 7 rfl) (fun w h => List.mem_cons_of_mem _ (List.mem_append_right _ (List.mem_append_right _ (List.mem_append_right _ (List.mem_append_left _ h))))) wkg_c_X6_begin_x) rfl rfl rfl (by decide +kernel) ⟨Nat.le_of_ble_eq_true rfl, Nat.le_of_ble_eq_true rfl⟩) ⟨fun a U g mk q => by obtain ⟨q0, q1, qP, qK, qD⟩ := q; exact ⟨q0, q1, qP, va_K.moved (u := U) (U := U.calling g mk a) (Vm.Alike.refl U.vm) qK, qD⟩, va_recv hK hPc (ci := 6) (q0 := 0) rfl rfl, fun U hU hW => ⟨rfl, by rw [hU], by rw [hU]; exact hPc, va_K.moved hW.alike hK, hDc.weaken (fun _ _ _ _ => trivial)⟩⟩ rfl rfl hl.1 rfl (lv_room (Nat.le_of_ble_eq_true rfl)) dX11_row_40 ⟨Nat.le_of_ble_eq_true rfl, Nat.le_of_ble_eq_true rfl⟩) hS (fun q _ h => hFc q h) hFc (fun u t H1 locs ht hvm gz52 hB hz1 hk1 hS => ?_)
                obtain ⟨vz54, sz55, lz56, hsz55, pz57, pz58, pz59, hP1⟩ := hB
                rw [ht] at hP1
                obtain ⟨hP, hD⟩ := w_callR hP hD hk1 hP1 [2] rfl rfl (fun _ h => absurd h List.not_mem_nil) rfl [none, none, some 0, none] rfl rfl
                clear hPc hC hDc hFc hk1 hP1
                generalize H1 = H at hP hS ⊢
                have hP : va_P (dC, dI) vwCl (List.flatten [(wSlot qL0 k vL0 sL0 lL0), (wSlot qL1 k vL1 sL1 lL1), (wSlot qL2 k vz54 sz55 lz56), (wSlot qL3 k vL3 sL3 lL3)] ++ List.flatten [(wSag qX k tapeX toldX actsX nowX trialX storyX attemptX orderSearchX routeSearchX setSearchX probeX (qL0 0) (qL1 0) (qL2 0) (qL3 0) image0X image1X image2X aX)]) H := hP
                have hD : va_D A (List.flatten [(wSlot qL0 k vL0 sL0 lL0), (wSlot qL1 k vL1 sL1 lL1), (wSlot qL2 k vz54 sz55 lz56), (wSlot qL3 k vL3 sL3 lL3)] ++ List.flatten [(wSag qX k tapeX toldX actsX nowX trialX storyX attemptX orderSearchX routeSearchX setSearchX probeX (qL0 0) (qL1 0) (qL2 0) (qL3 0) image0X image1X image2X aX)]) := hD
                refine W.widen (k := 0) (n := 0) (Nat.le_refl 0) (Nat.le_refl 0) ?_
                have pz57 : (vz54 0).toInt = 1 := pz57
                have pz58 : (vz54 1).toInt = p2.toInt := pz58
                have pz59 : (sz55 0).toInt = p3.toInt := pz59
                refine lv_iconst (v := 0) hx hb dX11_row_43 (by decide) ?_
                rw [hQ]
                exact W.iret (v := (0 : Int32)) hx hb hr (fun t ht hW => ⟨⟨(0 : Int32), (), rfl, (by show ((p1.toInt < 0 ∨ 3 < p1.toInt ∨ p2.toInt < 0 ∨ 3 < p2.toInt ∨ 60 < p3.toInt) ∧ (0 : Int) = (-2)) ∨ (¬ (p1.toInt < 0 ∨ 3 < p1.toInt ∨ p2.toInt < 0 ∨ 3 < p2.toInt ∨ 60 < p3.toInt) ∧ p3.toInt < 0 ∧ (0 : Int) = (-3)) ∨ (¬ (p1.toInt < 0 ∨ 3 < p1.toInt ∨ p2.toInt < 0 ∨ 3 < p2.toInt ∨ 60 < p3.toInt) ∧ 0 ≤ p3.toInt ∧ (0 : Int) = 0); omega), vL0, sL0, lL0, vL1, sL1, lL1, vz54, sz55, lz56, vL3, sL3, lL3, hsL0, hsL1, hsz55, hsL3, (by show ((¬ (p1.toInt < 0 ∨ 3 < p1.toInt ∨ p2.toInt < 0 ∨ 3 < p2.toInt ∨ 60 < p3.toInt) ∧ 0 ≤ p3.toInt) ∧ p1.toInt = 0 ∧ (vL0 0).toInt = 1 ∧ (vL0 1).toInt = p2.toInt ∧ (sL0 0).toInt = p3.toInt) ∨ (¬ ((¬ (p1.toInt < 0 ∨ 3 < p1.toInt ∨ p2.toInt < 0 ∨ 3 < p2.toInt ∨ 60 < p3.toInt) ∧ 0 ≤ p3.toInt) ∧ p1.toInt = 0) ∧ (vL0 0).toInt = (vL0 0).toInt ∧ (vL0 1).toInt = (vL0 1).toInt ∧ (sL0 0).toInt = (sL0 0).toInt); omega), (by show ((¬ (p1.toInt < 0 ∨ 3 < p1.toInt ∨ p2.toInt < 0 ∨ 3 < p2.toInt ∨ 60 < p3.toInt) ∧ 0 ≤ p3.toInt) ∧ p1.toInt = 1 ∧ (vL1 0).toInt = 1 ∧ (vL1 1).toInt = p2.toInt ∧ (sL1 0).toInt = p3.toInt) ∨ (¬ ((¬ (p1.toInt < 0 ∨ 3 < p1.toInt ∨ p2.toInt < 0 ∨ 3 < p2.toInt ∨ 60 < p3.toInt) ∧ 0 ≤ p3.toInt) ∧ p1.toInt = 1) ∧ (vL1 0).toInt = (vL1 0).toInt ∧ (vL1 1).toInt = (vL1 1).toInt ∧ (sL1 0).toInt = (sL1 0).toInt); omega), (by show ((¬ (p1.toInt < 0 ∨ 3 < p1.toInt ∨ p2.toInt < 0 ∨ 3 < p2.toInt ∨ 60 < p3.toInt) ∧ 0 ≤ p3.toInt) ∧ p1.toInt = 2 ∧ (vz54 0).toInt = 1 ∧ (vz54 1).toInt = p2.toInt ∧ (sz55 0).toInt = p3.toInt) ∨ (¬ ((¬ (p1.toInt < 0 ∨ 3 < p1.toInt ∨ p2.toInt < 0 ∨ 3 < p2.toInt ∨ 60 < p3.toInt) ∧ 0 ≤ p3.toInt) ∧ p1.toInt = 2) ∧ (vz54 0).toInt = (vL2 0).toInt ∧ (vz54 1).toInt = (vL2 1).toInt ∧ (sz55 0).toInt = (sL2 0).toInt); omega), (by show ((¬ (p1.toInt < 0 ∨ 3 < p1.toInt ∨ p2.toInt < 0 ∨ 3 < p2.toInt ∨ 60 < p3.toInt) ∧ 0 ≤ p3.toInt) ∧ p1.toInt = 3 ∧ (vL3 0).toInt = 1 ∧ (vL3 1).toInt = p2.toInt ∧ (sL3 0).toInt = p3.toInt) ∨ (¬ ((¬ (p1.toInt < 0 ∨ 3 < p1.toInt ∨ p2.toInt < 0 ∨ 3 < p2.toInt ∨ 60 < p3.toInt) ∧ 0 ≤ p3.toInt) ∧ p1.toInt = 3) ∧ (vL3 0).toInt = (vL3 0).toInt ∧ (vL3 1).toInt = (vL3 1).toInt ∧ (sL3 0).toInt = (sL3 0).toInt); omega), by rw [ht]; exact hP⟩, hS.F ht⟩) hS.2.2 dX11_row_44
              · skip
                have zz60 : p1.toInt = (3 : Int) := zi_eq.mp cz32
                refine W.eq (g2 := F0 m 37 ls [.int 3, .ref (qX 3)]) (by rw [cz32]) ?_
                refine va_aldq hx hb hK hP 11 6 rfl rfl (by unfold vp_in; decide) dX11_row_37 ?_
                refine W.eq (g2 := F0 m 38 ls [.ref (qL3 0)]) rfl ?_
                refine lv_iload_n hx hb dX11_row_38 rfl (lv_at hl 2 rfl) ?_
                refine lv_iload_n hx hb dX11_row_39 rfl (lv_at hl 3 rfl) ?_
                have hPc := hP.sub (ws' := (List.flatten [(wSlot qL3 k vL3 sL3 lL3)] ++ List.flatten ([] : List va_W))) [6, 7] rfl
                have hC : [6, 7].map (fun i => (List.flatten [(wSlot qL0 k vL0 sL0 lL0), (wSlot qL1 k vL1 sL1 lL1), (wSlot qL2 k vL2 sL2 lL2), (wSlot qL3 k vL3 sL3 lL3)] ++ List.flatten [(wSag qX k tapeX toldX actsX nowX trialX storyX attemptX orderSearchX routeSearchX setSearchX probeX (qL0 0) (qL1 0) (qL2 0) (qL3 0) image0X image1X image2X aX)])[i]?) = (List.flatten [(wSlot qL3 k vL3 sL3 lL3)] ++ List.flatten ([] : List va_W)).map some := rfl
                have hDc := hD.sub [6, 7] (by decide) hC
                have hFc := va_free hD hS hA [6, 7] hC
                refine va_callv (va_runV (As := [.int p2, .int p3]) (rest := []) ⟨hx, hb, hml, hown, hts⟩ (c_X6_begin_x l dC dI k s.heap.size qL3 vL3 sL3 lL3 p2 p3 hsL3 (by show 0 ≤ p3.toInt ∧ p3.toInt ≤ 60; omega)) (cwV 2 hts (gk_V (wl_mem 4 rfl) (wl_mem 5 rfl) (wl_mem 6 rfl) (wl_mem 7 rfl) (fun w h => List.mem_cons_of_mem _ (List.mem_append_right _ (List.mem_append_right _ (List.mem_append_right _ (List.mem_append_left _ h))))) wkg_c_X6_begin_x) rfl rfl rfl (by decide +kernel) ⟨Nat.le_of_ble_eq_true rfl, Nat.le_of_ble_eq_true rfl⟩) ⟨fun a U g mk q => by obtain ⟨q0, q1, qP, qK, qD⟩ := q; exact ⟨q0, q1, qP, va_K.moved (u := U) (U := U.calling g mk a) (Vm.Alike.refl U.vm) qK, qD⟩, va_recv hK hPc (ci := 6) (q0 := 0) rfl rfl, fun U hU hW => ⟨rfl, by rw [hU], by rw [hU]; exact hPc, va_K.moved hW.alike hK, hDc.weaken (fun _ _ _ _ => trivial)⟩⟩ rfl rfl hl.1 rfl (lv_room (Nat.le_of_ble_eq_true rfl)) dX11_row_40 ⟨Nat.le_of_ble_eq_true rfl, Nat.le_of_ble_eq_true rfl⟩) hS (fun q _ h => hFc q h) hFc (fun u t H1 locs ht hvm gz61 hB hz1 hk1 hS => ?_)
                obtain ⟨vz63, sz64, lz65, hsz64, pz66, pz67, pz68, hP1⟩ := hB
                rw [ht] at hP1
                obtain ⟨hP, hD⟩ := w_callR hP hD hk1 hP1 [3] rfl rfl (fun _ h => absurd h List.not_mem_nil) rfl [none, none, none, some 0] rfl rfl
                clear hPc hC hDc hFc hk1 hP1
                generalize H1 = H at hP hS ⊢
                have hP : va_P (dC, dI) vwCl (List.flatten [(wSlot qL0 k vL0 sL0 lL0), (wSlot qL1 k vL1 sL1 lL1), (wSlot qL2 k vL2 sL2 lL2), (wSlot qL3 k vz63 sz64 lz65)] ++ List.flatten [(wSag qX k tapeX toldX actsX nowX trialX storyX attemptX orderSearchX routeSearchX setSearchX probeX (qL0 0) (qL1 0) (qL2 0) (qL3 0) image0X image1X image2X aX)]) H := hP
                have hD : va_D A (List.flatten [(wSlot qL0 k vL0 sL0 lL0), (wSlot qL1 k vL1 sL1 lL1), (wSlot qL2 k vL2 sL2 lL2), (wSlot qL3 k vz63 sz64 lz65)] ++ List.flatten [(wSag qX k tapeX toldX actsX nowX trialX storyX attemptX orderSearchX routeSearchX setSearchX probeX (qL0 0) (qL1 0) (qL2 0) (qL3 0) image0X image1X image2X aX)]) := hD
                refine W.widen (k := 0) (n := 0) (Nat.le_refl 0) (Nat.le_refl 0) ?_
                have pz66 : (vz63 0).toInt = 1 := pz66
                have pz67 : (vz63 1).toInt = p2.toInt := pz67
                have pz68 : (sz64 0).toInt = p3.toInt := pz68
                refine lv_iconst (v := 0) hx hb dX11_row_43 (by decide) ?_
                rw [hQ]
                exact W.iret (v := (0 : Int32)) hx hb hr (fun t ht hW => ⟨⟨(0 : Int32), (), rfl, (by show ((p1.toInt < 0 ∨ 3 < p1.toInt ∨ p2.toInt < 0 ∨ 3 < p2.toInt ∨ 60 < p3.toInt) ∧ (0 : Int) = (-2)) ∨ (¬ (p1.toInt < 0 ∨ 3 < p1.toInt ∨ p2.toInt < 0 ∨ 3 < p2.toInt ∨ 60 < p3.toInt) ∧ p3.toInt < 0 ∧ (0 : Int) = (-3)) ∨ (¬ (p1.toInt < 0 ∨ 3 < p1.toInt ∨ p2.toInt < 0 ∨ 3 < p2.toInt ∨ 60 < p3.toInt) ∧ 0 ≤ p3.toInt ∧ (0 : Int) = 0); omega), vL0, sL0, lL0, vL1, sL1, lL1, vL2, sL2, lL2, vz63, sz64, lz65, hsL0, hsL1, hsL2, hsz64, (by show ((¬ (p1.toInt < 0 ∨ 3 < p1.toInt ∨ p2.toInt < 0 ∨ 3 < p2.toInt ∨ 60 < p3.toInt) ∧ 0 ≤ p3.toInt) ∧ p1.toInt = 0 ∧ (vL0 0).toInt = 1 ∧ (vL0 1).toInt = p2.toInt ∧ (sL0 0).toInt = p3.toInt) ∨ (¬ ((¬ (p1.toInt < 0 ∨ 3 < p1.toInt ∨ p2.toInt < 0 ∨ 3 < p2.toInt ∨ 60 < p3.toInt) ∧ 0 ≤ p3.toInt) ∧ p1.toInt = 0) ∧ (vL0 0).toInt = (vL0 0).toInt ∧ (vL0 1).toInt = (vL0 1).toInt ∧ (sL0 0).toInt = (sL0 0).toInt); omega), (by show ((¬ (p1.toInt < 0 ∨ 3 < p1.toInt ∨ p2.toInt < 0 ∨ 3 < p2.toInt ∨ 60 < p3.toInt) ∧ 0 ≤ p3.toInt) ∧ p1.toInt = 1 ∧ (vL1 0).toInt = 1 ∧ (vL1 1).toInt = p2.toInt ∧ (sL1 0).toInt = p3.toInt) ∨ (¬ ((¬ (p1.toInt < 0 ∨ 3 < p1.toInt ∨ p2.toInt < 0 ∨ 3 < p2.toInt ∨ 60 < p3.toInt) ∧ 0 ≤ p3.toInt) ∧ p1.toInt = 1) ∧ (vL1 0).toInt = (vL1 0).toInt ∧ (vL1 1).toInt = (vL1 1).toInt ∧ (sL1 0).toInt = (sL1 0).toInt); omega), (by show ((¬ (p1.toInt < 0 ∨ 3 < p1.toInt ∨ p2.toInt < 0 ∨ 3 < p2.toInt ∨ 60 < p3.toInt) ∧ 0 ≤ p3.toInt) ∧ p1.toInt = 2 ∧ (vL2 0).toInt = 1 ∧ (vL2 1).toInt = p2.toInt ∧ (sL2 0).toInt = p3.toInt) ∨ (¬ ((¬ (p1.toInt < 0 ∨ 3 < p1.toInt ∨ p2.toInt < 0 ∨ 3 < p2.toInt ∨ 60 < p3.toInt) ∧ 0 ≤ p3.toInt) ∧ p1.toInt = 2) ∧ (vL2 0).toInt = (vL2 0).toInt ∧ (vL2 1).toInt = (vL2 1).toInt ∧ (sL2 0).toInt = (sL2 0).toInt); omega), (by show ((¬ (p1.toInt < 0 ∨ 3 < p1.toInt ∨ p2.toInt < 0 ∨ 3 < p2.toInt ∨ 60 < p3.toInt) ∧ 0 ≤ p3.toInt) ∧ p1.toInt = 3 ∧ (vz63 0).toInt = 1 ∧ (vz63 1).toInt = p2.toInt ∧ (sz64 0).toInt = p3.toInt) ∨ (¬ ((¬ (p1.toInt < 0 ∨ 3 < p1.toInt ∨ p2.toInt < 0 ∨ 3 < p2.toInt ∨ 60 < p3.toInt) ∧ 0 ≤ p3.toInt) ∧ p1.toInt = 3) ∧ (vz63 0).toInt = (vL3 0).toInt ∧ (vz63 1).toInt = (vL3 1).toInt ∧ (sz64 0).toInt = (sL3 0).toInt); omega), by rw [ht]; exact hP⟩, hS.F ht⟩) hS.2.2 dX11_row_44
            · skip
              have zz69 : ¬ (0 : Int) ≤ p3.toInt := fun h9 => cz30 (zi_le.mpr h9)
              refine lv_bipush (v := (-3)) hx hb dX11_row_29 (by decide) ?_
              rw [hQ]
              exact W.iret (v := (-3 : Int32)) hx hb hr (fun t ht hW => ⟨⟨(-3 : Int32), (), rfl, (by show ((p1.toInt < 0 ∨ 3 < p1.toInt ∨ p2.toInt < 0 ∨ 3 < p2.toInt ∨ 60 < p3.toInt) ∧ (-3 : Int) = (-2)) ∨ (¬ (p1.toInt < 0 ∨ 3 < p1.toInt ∨ p2.toInt < 0 ∨ 3 < p2.toInt ∨ 60 < p3.toInt) ∧ p3.toInt < 0 ∧ (-3 : Int) = (-3)) ∨ (¬ (p1.toInt < 0 ∨ 3 < p1.toInt ∨ p2.toInt < 0 ∨ 3 < p2.toInt ∨ 60 < p3.toInt) ∧ 0 ≤ p3.toInt ∧ (-3 : Int) = 0); omega), vL0, sL0, lL0, vL1, sL1, lL1, vL2, sL2, lL2, vL3, sL3, lL3, hsL0, hsL1, hsL2, hsL3, (by show ((¬ (p1.toInt < 0 ∨ 3 < p1.toInt ∨ p2.toInt < 0 ∨ 3 < p2.toInt ∨ 60 < p3.toInt) ∧ 0 ≤ p3.toInt) ∧ p1.toInt = 0 ∧ (vL0 0).toInt = 1 ∧ (vL0 1).toInt = p2.toInt ∧ (sL0 0).toInt = p3.toInt) ∨ (¬ ((¬ (p1.toInt < 0 ∨ 3 < p1.toInt ∨ p2.toInt < 0 ∨ 3 < p2.toInt ∨ 60 < p3.toInt) ∧ 0 ≤ p3.toInt) ∧ p1.toInt = 0) ∧ (vL0 0).toInt = (vL0 0).toInt ∧ (vL0 1).toInt = (vL0 1).toInt ∧ (sL0 0).toInt = (sL0 0).toInt); omega), (by show ((¬ (p1.toInt < 0 ∨ 3 < p1.toInt ∨ p2.toInt < 0 ∨ 3 < p2.toInt ∨ 60 < p3.toInt) ∧ 0 ≤ p3.toInt) ∧ p1.toInt = 1 ∧ (vL1 0).toInt = 1 ∧ (vL1 1).toInt = p2.toInt ∧ (sL1 0).toInt = p3.toInt) ∨ (¬ ((¬ (p1.toInt < 0 ∨ 3 < p1.toInt ∨ p2.toInt < 0 ∨ 3 < p2.toInt ∨ 60 < p3.toInt) ∧ 0 ≤ p3.toInt) ∧ p1.toInt = 1) ∧ (vL1 0).toInt = (vL1 0).toInt ∧ (vL1 1).toInt = (vL1 1).toInt ∧ (sL1 0).toInt = (sL1 0).toInt); omega), (by show ((¬ (p1.toInt < 0 ∨ 3 < p1.toInt ∨ p2.toInt < 0 ∨ 3 < p2.toInt ∨ 60 < p3.toInt) ∧ 0 ≤ p3.toInt) ∧ p1.toInt = 2 ∧ (vL2 0).toInt = 1 ∧ (vL2 1).toInt = p2.toInt ∧ (sL2 0).toInt = p3.toInt) ∨ (¬ ((¬ (p1.toInt < 0 ∨ 3 < p1.toInt ∨ p2.toInt < 0 ∨ 3 < p2.toInt ∨ 60 < p3.toInt) ∧ 0 ≤ p3.toInt) ∧ p1.toInt = 2) ∧ (vL2 0).toInt = (vL2 0).toInt ∧ (vL2 1).toInt = (vL2 1).toInt ∧ (sL2 0).toInt = (sL2 0).toInt); omega), (by show ((¬ (p1.toInt < 0 ∨ 3 < p1.toInt ∨ p2.toInt < 0 ∨ 3 < p2.toInt ∨ 60 < p3.toInt) ∧ 0 ≤ p3.toInt) ∧ p1.toInt = 3 ∧ (vL3 0).toInt = 1 ∧ (vL3 1).toInt = p2.toInt ∧ (sL3 0).toInt = p3.toInt) ∨ (¬ ((¬ (p1.toInt < 0 ∨ 3 < p1.toInt ∨ p2.toInt < 0 ∨ 3 < p2.toInt ∨ 60 < p3.toInt) ∧ 0 ≤ p3.toInt) ∧ p1.toInt = 3) ∧ (vL3 0).toInt = (vL3 0).toInt ∧ (vL3 1).toInt = (vL3 1).toInt ∧ (sL3 0).toInt = (sL3 0).toInt); omega), by rw [ht]; exact hP⟩, hS.F ht⟩) hS.2.2 dX11_row_31
          · skip
            have bz70 := fb_rng p3
            have zz71 : ¬ p3.toInt ≤ (60 : Int) := fun h9 => cz27 (zi_le.mpr h9)
            refine lv_bipush (v := (-2)) hx hb dX11_row_22 (by decide) ?_
            rw [hQ]
            exact W.iret (v := (-2 : Int32)) hx hb hr (fun t ht hW => ⟨⟨(-2 : Int32), (), rfl, (by show ((p1.toInt < 0 ∨ 3 < p1.toInt ∨ p2.toInt < 0 ∨ 3 < p2.toInt ∨ 60 < p3.toInt) ∧ (-2 : Int) = (-2)) ∨ (¬ (p1.toInt < 0 ∨ 3 < p1.toInt ∨ p2.toInt < 0 ∨ 3 < p2.toInt ∨ 60 < p3.toInt) ∧ p3.toInt < 0 ∧ (-2 : Int) = (-3)) ∨ (¬ (p1.toInt < 0 ∨ 3 < p1.toInt ∨ p2.toInt < 0 ∨ 3 < p2.toInt ∨ 60 < p3.toInt) ∧ 0 ≤ p3.toInt ∧ (-2 : Int) = 0); omega), vL0, sL0, lL0, vL1, sL1, lL1, vL2, sL2, lL2, vL3, sL3, lL3, hsL0, hsL1, hsL2, hsL3, (by show ((¬ (p1.toInt < 0 ∨ 3 < p1.toInt ∨ p2.toInt < 0 ∨ 3 < p2.toInt ∨ 60 < p3.toInt) ∧ 0 ≤ p3.toInt) ∧ p1.toInt = 0 ∧ (vL0 0).toInt = 1 ∧ (vL0 1).toInt = p2.toInt ∧ (sL0 0).toInt = p3.toInt) ∨ (¬ ((¬ (p1.toInt < 0 ∨ 3 < p1.toInt ∨ p2.toInt < 0 ∨ 3 < p2.toInt ∨ 60 < p3.toInt) ∧ 0 ≤ p3.toInt) ∧ p1.toInt = 0) ∧ (vL0 0).toInt = (vL0 0).toInt ∧ (vL0 1).toInt = (vL0 1).toInt ∧ (sL0 0).toInt = (sL0 0).toInt); omega), (by show ((¬ (p1.toInt < 0 ∨ 3 < p1.toInt ∨ p2.toInt < 0 ∨ 3 < p2.toInt ∨ 60 < p3.toInt) ∧ 0 ≤ p3.toInt) ∧ p1.toInt = 1 ∧ (vL1 0).toInt = 1 ∧ (vL1 1).toInt = p2.toInt ∧ (sL1 0).toInt = p3.toInt) ∨ (¬ ((¬ (p1.toInt < 0 ∨ 3 < p1.toInt ∨ p2.toInt < 0 ∨ 3 < p2.toInt ∨ 60 < p3.toInt) ∧ 0 ≤ p3.toInt) ∧ p1.toInt = 1) ∧ (vL1 0).toInt = (vL1 0).toInt ∧ (vL1 1).toInt = (vL1 1).toInt ∧ (sL1 0).toInt = (sL1 0).toInt); omega), (by show ((¬ (p1.toInt < 0 ∨ 3 < p1.toInt ∨ p2.toInt < 0 ∨ 3 < p2.toInt ∨ 60 < p3.toInt) ∧ 0 ≤ p3.toInt) ∧ p1.toInt = 2 ∧ (vL2 0).toInt = 1 ∧ (vL2 1).toInt = p2.toInt ∧ (sL2 0).toInt = p3.toInt) ∨ (¬ ((¬ (p1.toInt < 0 ∨ 3 < p1.toInt ∨ p2.toInt < 0 ∨ 3 < p2.toInt ∨ 60 < p3.toInt) ∧ 0 ≤ p3.toInt) ∧ p1.toInt = 2) ∧ (vL2 0).toInt = (vL2 0).toInt ∧ (vL2 1).toInt = (vL2 1).toInt ∧ (sL2 0).toInt = (sL2 0).toInt); omega), (by show ((¬ (p1.toInt < 0 ∨ 3 < p1.toInt ∨ p2.toInt < 0 ∨ 3 < p2.toInt ∨ 60 < p3.toInt) ∧ 0 ≤ p3.toInt) ∧ p1.toInt = 3 ∧ (vL3 0).toInt = 1 ∧ (vL3 1).toInt = p2.toInt ∧ (sL3 0).toInt = p3.toInt) ∨ (¬ ((¬ (p1.toInt < 0 ∨ 3 < p1.toInt ∨ p2.toInt < 0 ∨ 3 < p2.toInt ∨ 60 < p3.toInt) ∧ 0 ≤ p3.toInt) ∧ p1.toInt = 3) ∧ (vL3 0).toInt = (vL3 0).toInt ∧ (vL3 1).toInt = (vL3 1).toInt ∧ (sL3 0).toInt = (sL3 0).toInt); omega), by rw [ht]; exact hP⟩, hS.F ht⟩) hS.2.2 dX11_row_24
def wk_c_X12_row_y : List Cond := .code yX12_row cX12_row 5 (some .int) :: ([.fieldLink RX12 116 "SagMemoryModel" "thrown" "I", .methodLink RX12 125 yX12_isSlot, .static yX12_isSlot, .initialized RX12, .constantLong RX12 119 (3), .methodLink RX12 121 yX12_in, .static yX12_in, .fieldLink RX12 7 "SagMemoryModel" "width" "[I", .fieldLink RX12 13 "SagMemoryModel" "many" "[I", .fieldLink RX12 16 "SagMemoryModel" "cells" "[J"] ++ (wsX120 ++ (wk_c_X12_isSlot ++ (wk_c_X12_in ++ []))))
theorem wkg_c_X12_row_y : wk_c_X12_row_y.all goodWord = true := by decide +kernel
set_option maxHeartbeats 4000000 in
set_option maxRecDepth 100000 in
theorem c_X12_row_y (l : Launch) (dC : Nat → ClassId) (dI : Nat → Nat → Nat) (k : Nat → ClassId) (sz : Nat) (qO : Nat → Nat) (movedO : Nat) (tapeO : Nat) (linesO : Nat) (hasO : Nat) (bridgeO : Nat) (cartO : Nat) (wardO : Nat) (frostAtO : Nat) (actO : Nat) (isKeptO : Nat) (loadNowO : Nat) (byNowO : Nat) (rowO : Nat) (memoryO : Nat) (whoseO : Nat) (deepNowO : Nat) (brokenByO : Nat) (brokenAtO : Nat) (goesByO : Nat) (comesToO : Nat) (sagMoreO : Nat) (creakOfO : Nat) (wipedByO : Nat) (deepAtO : Nat) (sagAtO : Nat) (loadAtO : Nat) (orderRowO : Nat) (oftenO : Nat) (lossOneO : Nat) (lossOtherO : Nat) (vO : Nat → Int32) (tO : Nat → Int32) (mO : Nat → Int32) (gO : Nat → Int64) (qWi : Nat → Nat) (aWi : Nat → Nat → Int32) (qMy : Nat → Nat) (zMy : Nat → Nat → Int32) (qCe : Nat → Nat) (lCe : Nat → Nat → Int64) (p1 : Int32) (p2 : Int32) (p3 : Int32) (htO : Rg 0 700 tO) (hmO : Rg (-1) 127 mO) (hzMy : RgA 0 60 zMy) : Met l yX12_row wk_c_X12_row_y ({ frames := 2, cells := 0, slots := 0, locals := 45 }) (va_Pc [.ref (qO 0), .int p1, .int p2, .int p3] (fun U => U.heap.size = sz ∧ va_P (dC, dI) vwCl (List.flatten [(wMO qO k (qWi 0) (qMy 0) (qCe 0) movedO tapeO linesO hasO bridgeO cartO wardO frostAtO actO isKeptO loadNowO byNowO rowO memoryO whoseO deepNowO brokenByO brokenAtO goesByO comesToO sagMoreO creakOfO wipedByO deepAtO sagAtO loadAtO orderRowO oftenO lossOneO lossOtherO vO tO mO gO), (wmWi qWi k aWi), (wmMy qMy k zMy), (wmCe qCe k lCe)] ++ List.flatten ([] : List va_W)) U.heap ∧ va_K (dC, dI) vwCl (tK k) U ∧ va_D (fun _ => True) (List.flatten [(wMO qO k (qWi 0) (qMy 0) (qCe 0) movedO tapeO linesO hasO bridgeO cartO wardO frostAtO actO isKeptO loadNowO byNowO rowO memoryO whoseO deepNowO brokenByO brokenAtO goesByO comesToO sagMoreO creakOfO wipedByO deepAtO sagAtO loadAtO orderRowO oftenO lossOneO lossOtherO vO tO mO gO), (wmWi qWi k aWi), (wmMy qMy k zMy), (wmCe qCe k lCe)] ++ List.flatten ([] : List va_W)))) (va_Qi (fun (r : Int32) (_ : Unit) => (((p1.toInt < 0 ∨ 3 < p1.toInt ∨ p2.toInt < 0 ∨ 3 < p2.toInt ∨ 60 < p3.toInt) ∧ r.toInt = (-2)) ∨ (¬ (p1.toInt < 0 ∨ 3 < p1.toInt ∨ p2.toInt < 0 ∨ 3 < p2.toInt ∨ 60 < p3.toInt) ∧ p3.toInt < 0 ∧ r.toInt = (-3)) ∨ (¬ (p1.toInt < 0 ∨ 3 < p1.toInt ∨ p2.toInt < 0 ∨ 3 < p2.toInt ∨ 60 < p3.toInt) ∧ 0 ≤ p3.toInt ∧ r.toInt = 0))) (fun (_ : Unit) (t : State) => ∃ (vO' : Nat → Int32) (tO' : Nat → Int32) (mO' : Nat → Int32) (gO' : Nat → Int64) (aWi' : Nat → Nat → Int32) (zMy' : Nat → Nat → Int32) (lCe' : Nat → Nat → Int64), Rg 0 700 tO' ∧ Rg (-1) 127 mO' ∧ RgA 0 60 zMy' ∧ (((¬ (p1.toInt < 0 ∨ 3 < p1.toInt ∨ p2.toInt < 0 ∨ 3 < p2.toInt ∨ 60 < p3.toInt) ∧ 0 ≤ p3.toInt) ∧ p1.toInt = 0 ∧ ((aWi' 0) 0).toInt = p2.toInt ∧ ((zMy' 0) 0).toInt = p3.toInt) ∨ (¬ ((¬ (p1.toInt < 0 ∨ 3 < p1.toInt ∨ p2.toInt < 0 ∨ 3 < p2.toInt ∨ 60 < p3.toInt) ∧ 0 ≤ p3.toInt) ∧ p1.toInt = 0) ∧ ((aWi' 0) 0).toInt = ((aWi 0) 0).toInt ∧ ((zMy' 0) 0).toInt = ((zMy 0) 0).toInt)) ∧ (((¬ (p1.toInt < 0 ∨ 3 < p1.toInt ∨ p2.toInt < 0 ∨ 3 < p2.toInt ∨ 60 < p3.toInt) ∧ 0 ≤ p3.toInt) ∧ p1.toInt = 1 ∧ ((aWi' 0) 1).toInt = p2.toInt ∧ ((zMy' 0) 1).toInt = p3.toInt) ∨ (¬ ((¬ (p1.toInt < 0 ∨ 3 < p1.toInt ∨ p2.toInt < 0 ∨ 3 < p2.toInt ∨ 60 < p3.toInt) ∧ 0 ≤ p3.toInt) ∧ p1.toInt = 1) ∧ ((aWi' 0) 1).toInt = ((aWi 0) 1).toInt ∧ ((zMy' 0) 1).toInt = ((zMy 0) 1).toInt)) ∧ (((¬ (p1.toInt < 0 ∨ 3 < p1.toInt ∨ p2.toInt < 0 ∨ 3 < p2.toInt ∨ 60 < p3.toInt) ∧ 0 ≤ p3.toInt) ∧ p1.toInt = 2 ∧ ((aWi' 0) 2).toInt = p2.toInt ∧ ((zMy' 0) 2).toInt = p3.toInt) ∨ (¬ ((¬ (p1.toInt < 0 ∨ 3 < p1.toInt ∨ p2.toInt < 0 ∨ 3 < p2.toInt ∨ 60 < p3.toInt) ∧ 0 ≤ p3.toInt) ∧ p1.toInt = 2) ∧ ((aWi' 0) 2).toInt = ((aWi 0) 2).toInt ∧ ((zMy' 0) 2).toInt = ((zMy 0) 2).toInt)) ∧ (((¬ (p1.toInt < 0 ∨ 3 < p1.toInt ∨ p2.toInt < 0 ∨ 3 < p2.toInt ∨ 60 < p3.toInt) ∧ 0 ≤ p3.toInt) ∧ p1.toInt = 3 ∧ ((aWi' 0) 3).toInt = p2.toInt ∧ ((zMy' 0) 3).toInt = p3.toInt) ∨ (¬ ((¬ (p1.toInt < 0 ∨ 3 < p1.toInt ∨ p2.toInt < 0 ∨ 3 < p2.toInt ∨ 60 < p3.toInt) ∧ 0 ≤ p3.toInt) ∧ p1.toInt = 3) ∧ ((aWi' 0) 3).toInt = ((aWi 0) 3).toInt ∧ ((zMy' 0) 3).toInt = ((zMy 0) 3).toInt)) ∧ va_P (dC, dI) vwCl (List.flatten [(wMO qO k (qWi 0) (qMy 0) (qCe 0) movedO tapeO linesO hasO bridgeO cartO wardO frostAtO actO isKeptO loadNowO byNowO rowO memoryO whoseO deepNowO brokenByO brokenAtO goesByO comesToO sagMoreO creakOfO wipedByO deepAtO sagAtO loadAtO orderRowO oftenO lossOneO lossOtherO vO' tO' mO' gO'), (wmWi qWi k aWi'), (wmMy qMy k zMy'), (wmCe qCe k lCe')] ++ List.flatten ([] : List va_W)) t.heap) (va_A (List.flatten [(wMO qO k (qWi 0) (qMy 0) (qCe 0) movedO tapeO linesO hasO bridgeO cartO wardO frostAtO actO isKeptO loadNowO byNowO rowO memoryO whoseO deepNowO brokenByO brokenAtO goesByO comesToO sagMoreO creakOfO wipedByO deepAtO sagAtO loadAtO orderRowO oftenO lossOneO lossOtherO vO tO mO gO), (wmWi qWi k aWi), (wmMy qMy k zMy), (wmCe qCe k lCe)] ++ List.flatten ([] : List va_W)) sz)) 0 0 (va_A (List.flatten [(wMO qO k (qWi 0) (qMy 0) (qCe 0) movedO tapeO linesO hasO bridgeO cartO wardO frostAtO actO isKeptO loadNowO byNowO rowO memoryO whoseO deepNowO brokenByO brokenAtO goesByO comesToO sagMoreO creakOfO wipedByO deepAtO sagAtO loadAtO orderRowO oftenO lossOneO lossOtherO vO tO mO gO), (wmWi qWi k aWi), (wmMy qMy k zMy), (wmCe qCe k lCe)] ++ List.flatten ([] : List va_W)) sz) := by
  refine Met.ofW (cc := cX12_row) (maxL := 5) (ret := (some .int)) (by decide) rfl ?_
  intro p e s m args below meth c s₁ B hml hv
  obtain ⟨rfl, hsz, hP, hK, hD0⟩ := hv
  have hx := B.exec
  have hb := B.bytes
  have hr := B.returns
  have hts := atoms_spec (ws := wk_c_X12_row_y) B.pre
  have hown : s.vm.findClass RX12 = some m.cls := findClass_of_methodNamed B.named
  have hlocks := B.notSynchronized
  subst hsz
  have hD := hD0.self (sz := s.heap.size)
  generalize hAe : va_A (List.flatten [(wMO qO k (qWi 0) (qMy 0) (qCe 0) movedO tapeO linesO hasO bridgeO cartO wardO frostAtO actO isKeptO loadNowO byNowO rowO memoryO whoseO deepNowO brokenByO brokenAtO goesByO comesToO sagMoreO creakOfO wipedByO deepAtO sagAtO loadAtO orderRowO oftenO lossOneO lossOtherO vO tO mO gO), (wmWi qWi k aWi), (wmMy qMy k zMy), (wmCe qCe k lCe)] ++ List.flatten ([] : List va_W)) s.heap.size = A at hD ⊢
  have hA : ∀ q : Nat, s.heap.size ≤ q → A q := fun q h => by rw [← hAe]; exact Or.inr h
  have hS : va_S A s.heap s.heap [] := va_S.rf
  have hP : va_P (dC, dI) vwCl (List.flatten [(wMO qO k (qWi 0) (qMy 0) (qCe 0) movedO tapeO linesO hasO bridgeO cartO wardO frostAtO actO isKeptO loadNowO byNowO rowO memoryO whoseO deepNowO brokenByO brokenAtO goesByO comesToO sagMoreO creakOfO wipedByO deepAtO sagAtO loadAtO orderRowO oftenO lossOneO lossOtherO vO tO mO gO), (wmWi qWi k aWi), (wmMy qMy k zMy), (wmCe qCe k lCe)] ++ List.flatten ([] : List va_W)) s.heap := hP
  have hl := lv_entry ([.ref (qO 0), .int p1, .int p2, .int p3]) (n := 5) (Nat.le_of_ble_eq_true rfl)
  rw [lg_entry_eq]
  generalize (lg_sl ([.ref (qO 0), .int p1, .int p2, .int p3]) ++ List.replicate (5 - (lg_sl ([.ref (qO 0), .int p1, .int p2, .int p3])).length) Slot.unset).toArray = ls at hl ⊢
  have hl : lv_has ls 5 [(0, .ref (qO 0)), (1, .int p1), (2, .int p2), (3, .int p3)] := hl
  refine w_gen (fun Q hQ => ?_)
  refine lv_aload_n hx hb dX12_row_0 rfl (lv_at hl 0 rfl) ?_
  refine lv_iconst (v := 0) hx hb dX12_row_1 (by decide) ?_
  refine va_put (D := (dC, dI)) (ci := 12) (v := .int 0) (ty := .int) (C := RX12) (T := TX12) (N := 59) hx hb hts (fun w h => List.mem_cons_of_mem _ (List.mem_append_right _ (List.mem_append_left _ h))) tyX12 tyX12_ok nmX12 hown hK hP hD hS 0 rfl rfl 0 (by decide) (hts (.fieldLink RX12 116 "SagMemoryModel" "thrown" "I") (wl_mem 0 rfl)) (fun _ h9 => h9) rfl (by decide +kernel) rfl rfl (Nat.le_of_ble_eq_true rfl) dX12_row_2 (fun H locs hP hD hS => ?_)
  have hP : va_P (dC, dI) vwCl (List.flatten [(wMO qO k (qWi 0) (qMy 0) (qCe 0) movedO tapeO linesO hasO bridgeO cartO wardO frostAtO actO isKeptO loadNowO byNowO rowO memoryO whoseO deepNowO brokenByO brokenAtO goesByO comesToO sagMoreO creakOfO wipedByO deepAtO sagAtO loadAtO orderRowO oftenO lossOneO lossOtherO (va_up vO 0 (0 : Int32)) tO mO gO), (wmWi qWi k aWi), (wmMy qMy k zMy), (wmCe qCe k lCe)] ++ List.flatten ([] : List va_W)) H := hP
  have hD : va_D A (List.flatten [(wMO qO k (qWi 0) (qMy 0) (qCe 0) movedO tapeO linesO hasO bridgeO cartO wardO frostAtO actO isKeptO loadNowO byNowO rowO memoryO whoseO deepNowO brokenByO brokenAtO goesByO comesToO sagMoreO creakOfO wipedByO deepAtO sagAtO loadAtO orderRowO oftenO lossOneO lossOtherO (va_up vO 0 (0 : Int32)) tO mO gO), (wmWi qWi k aWi), (wmMy qMy k zMy), (wmCe qCe k lCe)] ++ List.flatten ([] : List va_W)) := hD
  refine lv_iload_n hx hb dX12_row_5 rfl (lv_at hl 1 rfl) ?_
  have hPc : va_P (dC, dI) vwCl (List.flatten ([] : List va_W)) H := fun k q h => by simp at h
  refine vp_callSi (va_Run.run (va_runS (As := [.int p1]) (rest := []) ⟨hx, hb, hml, hown, hts⟩ (c_X12_isSlot l dC dI k p1) (va_cwS 1 hts (gk_S (wl_mem 1 rfl) (wl_mem 2 rfl) (wl_mem 3 rfl) (fun w h => List.mem_cons_of_mem _ (List.mem_append_right _ (List.mem_append_right _ (List.mem_append_left _ h)))) wkg_c_X12_isSlot) rfl rfl rfl (by decide +kernel) ⟨Nat.le_of_ble_eq_true rfl, Nat.le_of_ble_eq_true rfl⟩) ⟨fun a U g mk q => by obtain ⟨q0, qP, qK⟩ := q; exact ⟨q0, qP, va_K.moved (u := U) (U := U.calling g mk a) (Vm.Alike.refl U.vm) qK⟩, fun U hU hW => ⟨rfl, by rw [hU]; exact hPc, va_K.moved hW.alike hK⟩⟩ rfl rfl hl.1 rfl (lv_room (Nat.le_of_ble_eq_true rfl)) dX12_row_6 ⟨Nat.le_of_ble_eq_true rfl, Nat.le_of_ble_eq_true rfl⟩)) (fun rz2 gz1 => ?_)
  clear hPc
  rcases gz1 with ⟨er, cz3⟩ | ⟨er, cz4, cz5⟩ | ⟨er, cz6, cz7⟩
  · obtain rfl := er.symm
    have zz8 : p1.toInt < (0 : Int) := by have h9 := zi_ltL.mp cz3; simp only [Int32.toInt_toInt64] at h9; exact h9
    refine lv_if_eq (tgt := 30) hx hb dX12_row_9 (by decide) (fun cz9 => ?_) (fun cz9 => ?_)
    · skip
      refine lv_bipush (v := (-2)) hx hb dX12_row_30 (by decide) ?_
      rw [hQ]
      exact W.iret (v := (-2 : Int32)) hx hb hr (fun t ht hW => ⟨⟨(-2 : Int32), (), rfl, (by show ((p1.toInt < 0 ∨ 3 < p1.toInt ∨ p2.toInt < 0 ∨ 3 < p2.toInt ∨ 60 < p3.toInt) ∧ (-2 : Int) = (-2)) ∨ (¬ (p1.toInt < 0 ∨ 3 < p1.toInt ∨ p2.toInt < 0 ∨ 3 < p2.toInt ∨ 60 < p3.toInt) ∧ p3.toInt < 0 ∧ (-2 : Int) = (-3)) ∨ (¬ (p1.toInt < 0 ∨ 3 < p1.toInt ∨ p2.toInt < 0 ∨ 3 < p2.toInt ∨ 60 < p3.toInt) ∧ 0 ≤ p3.toInt ∧ (-2 : Int) = 0); omega), (va_up vO 0 (0 : Int32)), tO, mO, gO, aWi, zMy, lCe, htO, hmO, hzMy, (by show ((¬ (p1.toInt < 0 ∨ 3 < p1.toInt ∨ p2.toInt < 0 ∨ 3 < p2.toInt ∨ 60 < p3.toInt) ∧ 0 ≤ p3.toInt) ∧ p1.toInt = 0 ∧ ((aWi 0) 0).toInt = p2.toInt ∧ ((zMy 0) 0).toInt = p3.toInt) ∨ (¬ ((¬ (p1.toInt < 0 ∨ 3 < p1.toInt ∨ p2.toInt < 0 ∨ 3 < p2.toInt ∨ 60 < p3.toInt) ∧ 0 ≤ p3.toInt) ∧ p1.toInt = 0) ∧ ((aWi 0) 0).toInt = ((aWi 0) 0).toInt ∧ ((zMy 0) 0).toInt = ((zMy 0) 0).toInt); omega), (by show ((¬ (p1.toInt < 0 ∨ 3 < p1.toInt ∨ p2.toInt < 0 ∨ 3 < p2.toInt ∨ 60 < p3.toInt) ∧ 0 ≤ p3.toInt) ∧ p1.toInt = 1 ∧ ((aWi 0) 1).toInt = p2.toInt ∧ ((zMy 0) 1).toInt = p3.toInt) ∨ (¬ ((¬ (p1.toInt < 0 ∨ 3 < p1.toInt ∨ p2.toInt < 0 ∨ 3 < p2.toInt ∨ 60 < p3.toInt) ∧ 0 ≤ p3.toInt) ∧ p1.toInt = 1) ∧ ((aWi 0) 1).toInt = ((aWi 0) 1).toInt ∧ ((zMy 0) 1).toInt = ((zMy 0) 1).toInt); omega), (by show ((¬ (p1.toInt < 0 ∨ 3 < p1.toInt ∨ p2.toInt < 0 ∨ 3 < p2.toInt ∨ 60 < p3.toInt) ∧ 0 ≤ p3.toInt) ∧ p1.toInt = 2 ∧ ((aWi 0) 2).toInt = p2.toInt ∧ ((zMy 0) 2).toInt = p3.toInt) ∨ (¬ ((¬ (p1.toInt < 0 ∨ 3 < p1.toInt ∨ p2.toInt < 0 ∨ 3 < p2.toInt ∨ 60 < p3.toInt) ∧ 0 ≤ p3.toInt) ∧ p1.toInt = 2) ∧ ((aWi 0) 2).toInt = ((aWi 0) 2).toInt ∧ ((zMy 0) 2).toInt = ((zMy 0) 2).toInt); omega), (by show ((¬ (p1.toInt < 0 ∨ 3 < p1.toInt ∨ p2.toInt < 0 ∨ 3 < p2.toInt ∨ 60 < p3.toInt) ∧ 0 ≤ p3.toInt) ∧ p1.toInt = 3 ∧ ((aWi 0) 3).toInt = p2.toInt ∧ ((zMy 0) 3).toInt = p3.toInt) ∨ (¬ ((¬ (p1.toInt < 0 ∨ 3 < p1.toInt ∨ p2.toInt < 0 ∨ 3 < p2.toInt ∨ 60 < p3.toInt) ∧ 0 ≤ p3.toInt) ∧ p1.toInt = 3) ∧ ((aWi 0) 3).toInt = ((aWi 0) 3).toInt ∧ ((zMy 0) 3).toInt = ((zMy 0) 3).toInt); omega), by rw [ht]; exact hP⟩, hS.F ht⟩) hS.2.2 dX12_row_32
    · skip
      exact absurd cz9 (by decide)
  · obtain rfl := er.symm
    have zz10 : ¬ p1.toInt < (0 : Int) := by intro h9; apply cz4; rw [zi_ltL]; simp only [Int32.toInt_toInt64]; exact h9
    have zz11 : (3 : Int) < p1.toInt := by have h9 := zi_ltL.mp cz5; simp only [Int32.toInt_toInt64] at h9; exact h9
    refine lv_if_eq (tgt := 30) hx hb dX12_row_9 (by decide) (fun cz12 => ?_) (fun cz12 => ?_)
    · skip
      refine lv_bipush (v := (-2)) hx hb dX12_row_30 (by decide) ?_
      rw [hQ]
      exact W.iret (v := (-2 : Int32)) hx hb hr (fun t ht hW => ⟨⟨(-2 : Int32), (), rfl, (by show ((p1.toInt < 0 ∨ 3 < p1.toInt ∨ p2.toInt < 0 ∨ 3 < p2.toInt ∨ 60 < p3.toInt) ∧ (-2 : Int) = (-2)) ∨ (¬ (p1.toInt < 0 ∨ 3 < p1.toInt ∨ p2.toInt < 0 ∨ 3 < p2.toInt ∨ 60 < p3.toInt) ∧ p3.toInt < 0 ∧ (-2 : Int) = (-3)) ∨ (¬ (p1.toInt < 0 ∨ 3 < p1.toInt ∨ p2.toInt < 0 ∨ 3 < p2.toInt ∨ 60 < p3.toInt) ∧ 0 ≤ p3.toInt ∧ (-2 : Int) = 0); omega), (va_up vO 0 (0 : Int32)), tO, mO, gO, aWi, zMy, lCe, htO, hmO, hzMy, (by show ((¬ (p1.toInt < 0 ∨ 3 < p1.toInt ∨ p2.toInt < 0 ∨ 3 < p2.toInt ∨ 60 < p3.toInt) ∧ 0 ≤ p3.toInt) ∧ p1.toInt = 0 ∧ ((aWi 0) 0).toInt = p2.toInt ∧ ((zMy 0) 0).toInt = p3.toInt) ∨ (¬ ((¬ (p1.toInt < 0 ∨ 3 < p1.toInt ∨ p2.toInt < 0 ∨ 3 < p2.toInt ∨ 60 < p3.toInt) ∧ 0 ≤ p3.toInt) ∧ p1.toInt = 0) ∧ ((aWi 0) 0).toInt = ((aWi 0) 0).toInt ∧ ((zMy 0) 0).toInt = ((zMy 0) 0).toInt); omega), (by show ((¬ (p1.toInt < 0 ∨ 3 < p1.toInt ∨ p2.toInt < 0 ∨ 3 < p2.toInt ∨ 60 < p3.toInt) ∧ 0 ≤ p3.toInt) ∧ p1.toInt = 1 ∧ ((aWi 0) 1).toInt = p2.toInt ∧ ((zMy 0) 1).toInt = p3.toInt) ∨ (¬ ((¬ (p1.toInt < 0 ∨ 3 < p1.toInt ∨ p2.toInt < 0 ∨ 3 < p2.toInt ∨ 60 < p3.toInt) ∧ 0 ≤ p3.toInt) ∧ p1.toInt = 1) ∧ ((aWi 0) 1).toInt = ((aWi 0) 1).toInt ∧ ((zMy 0) 1).toInt = ((zMy 0) 1).toInt); omega), (by show ((¬ (p1.toInt < 0 ∨ 3 < p1.toInt ∨ p2.toInt < 0 ∨ 3 < p2.toInt ∨ 60 < p3.toInt) ∧ 0 ≤ p3.toInt) ∧ p1.toInt = 2 ∧ ((aWi 0) 2).toInt = p2.toInt ∧ ((zMy 0) 2).toInt = p3.toInt) ∨ (¬ ((¬ (p1.toInt < 0 ∨ 3 < p1.toInt ∨ p2.toInt < 0 ∨ 3 < p2.toInt ∨ 60 < p3.toInt) ∧ 0 ≤ p3.toInt) ∧ p1.toInt = 2) ∧ ((aWi 0) 2).toInt = ((aWi 0) 2).toInt ∧ ((zMy 0) 2).toInt = ((zMy 0) 2).toInt); omega), (by show ((¬ (p1.toInt < 0 ∨ 3 < p1.toInt ∨ p2.toInt < 0 ∨ 3 < p2.toInt ∨ 60 < p3.toInt) ∧ 0 ≤ p3.toInt) ∧ p1.toInt = 3 ∧ ((aWi 0) 3).toInt = p2.toInt ∧ ((zMy 0) 3).toInt = p3.toInt) ∨ (¬ ((¬ (p1.toInt < 0 ∨ 3 < p1.toInt ∨ p2.toInt < 0 ∨ 3 < p2.toInt ∨ 60 < p3.toInt) ∧ 0 ≤ p3.toInt) ∧ p1.toInt = 3) ∧ ((aWi 0) 3).toInt = ((aWi 0) 3).toInt ∧ ((zMy 0) 3).toInt = ((zMy 0) 3).toInt); omega), by rw [ht]; exact hP⟩, hS.F ht⟩) hS.2.2 dX12_row_32
    · skip
      exact absurd cz12 (by decide)
  · obtain rfl := er.symm
    have zz13 : ¬ p1.toInt < (0 : Int) := by intro h9; apply cz6; rw [zi_ltL]; simp only [Int32.toInt_toInt64]; exact h9
    have zz14 : ¬ (3 : Int) < p1.toInt := by intro h9; apply cz7; rw [zi_ltL]; simp only [Int32.toInt_toInt64]; exact h9
    refine lv_if_eq (tgt := 30) hx hb dX12_row_9 (by decide) (fun cz15 => ?_) (fun cz15 => ?_)
    · skip
      exact absurd cz15 (by decide)
    · skip
      refine lv_iload_n hx hb dX12_row_12 rfl (lv_at hl 2 rfl) ?_
      refine lv_i2l hx hb dX12_row_13 rfl ?_
      refine lv_lconst (v := 0) hx hb dX12_row_14 (by decide) ?_
      refine lv_ldc2 (v := 3) hx hb hown (hts (.constantLong RX12 119 (3)) (wl_mem 4 rfl)) dX12_row_15 ?_
      have hPc : va_P (dC, dI) vwCl (List.flatten ([] : List va_W)) H := fun k q h => by simp at h
      refine vp_callSi (va_Run.run (va_runS (As := [.long p2.toInt64, .long 0, .long 3]) (rest := []) ⟨hx, hb, hml, hown, hts⟩ (c_X12_in l dC dI k p2.toInt64 (0 : Int64) (3 : Int64)) (va_cwS 3 hts (gk_S (wl_mem 5 rfl) (wl_mem 6 rfl) (wl_mem 3 rfl) (fun w h => List.mem_cons_of_mem _ (List.mem_append_right _ (List.mem_append_right _ (List.mem_append_right _ (List.mem_append_left _ h))))) wkg_c_X12_in) rfl rfl rfl (by decide +kernel) ⟨Nat.le_of_ble_eq_true rfl, Nat.le_of_ble_eq_true rfl⟩) ⟨fun a U g mk q => by obtain ⟨q0, qP, qK⟩ := q; exact ⟨q0, qP, va_K.moved (u := U) (U := U.calling g mk a) (Vm.Alike.refl U.vm) qK⟩, fun U hU hW => ⟨rfl, by rw [hU]; exact hPc, va_K.moved hW.alike hK⟩⟩ rfl rfl hl.1 rfl (lv_room (Nat.le_of_ble_eq_true rfl)) dX12_row_18 ⟨Nat.le_of_ble_eq_true rfl, Nat.le_of_ble_eq_true rfl⟩)) (fun rz17 gz16 => ?_)
      clear hPc
      rcases gz16 with ⟨er, cz18⟩ | ⟨er, cz19, cz20⟩ | ⟨er, cz21, cz22⟩
      · obtain rfl := er.symm
        have zz23 : p2.toInt < (0 : Int) := by have h9 := zi_ltL.mp cz18; simp only [Int32.toInt_toInt64] at h9; exact h9
        refine lv_if_eq (tgt := 30) hx hb dX12_row_21 (by decide) (fun cz24 => ?_) (fun cz24 => ?_)
        · skip
          refine lv_bipush (v := (-2)) hx hb dX12_row_30 (by decide) ?_
          rw [hQ]
          exact W.iret (v := (-2 : Int32)) hx hb hr (fun t ht hW => ⟨⟨(-2 : Int32), (), rfl, (by show ((p1.toInt < 0 ∨ 3 < p1.toInt ∨ p2.toInt < 0 ∨ 3 < p2.toInt ∨ 60 < p3.toInt) ∧ (-2 : Int) = (-2)) ∨ (¬ (p1.toInt < 0 ∨ 3 < p1.toInt ∨ p2.toInt < 0 ∨ 3 < p2.toInt ∨ 60 < p3.toInt) ∧ p3.toInt < 0 ∧ (-2 : Int) = (-3)) ∨ (¬ (p1.toInt < 0 ∨ 3 < p1.toInt ∨ p2.toInt < 0 ∨ 3 < p2.toInt ∨ 60 < p3.toInt) ∧ 0 ≤ p3.toInt ∧ (-2 : Int) = 0); omega), (va_up vO 0 (0 : Int32)), tO, mO, gO, aWi, zMy, lCe, htO, hmO, hzMy, (by show ((¬ (p1.toInt < 0 ∨ 3 < p1.toInt ∨ p2.toInt < 0 ∨ 3 < p2.toInt ∨ 60 < p3.toInt) ∧ 0 ≤ p3.toInt) ∧ p1.toInt = 0 ∧ ((aWi 0) 0).toInt = p2.toInt ∧ ((zMy 0) 0).toInt = p3.toInt) ∨ (¬ ((¬ (p1.toInt < 0 ∨ 3 < p1.toInt ∨ p2.toInt < 0 ∨ 3 < p2.toInt ∨ 60 < p3.toInt) ∧ 0 ≤ p3.toInt) ∧ p1.toInt = 0) ∧ ((aWi 0) 0).toInt = ((aWi 0) 0).toInt ∧ ((zMy 0) 0).toInt = ((zMy 0) 0).toInt); omega), (by show ((¬ (p1.toInt < 0 ∨ 3 < p1.toInt ∨ p2.toInt < 0 ∨ 3 < p2.toInt ∨ 60 < p3.toInt) ∧ 0 ≤ p3.toInt) ∧ p1.toInt = 1 ∧ ((aWi 0) 1).toInt = p2.toInt ∧ ((zMy 0) 1).toInt = p3.toInt) ∨ (¬ ((¬ (p1.toInt < 0 ∨ 3 < p1.toInt ∨ p2.toInt < 0 ∨ 3 < p2.toInt ∨ 60 < p3.toInt) ∧ 0 ≤ p3.toInt) ∧ p1.toInt = 1) ∧ ((aWi 0) 1).toInt = ((aWi 0) 1).toInt ∧ ((zMy 0) 1).toInt = ((zMy 0) 1).toInt); omega), (by show ((¬ (p1.toInt < 0 ∨ 3 < p1.toInt ∨ p2.toInt < 0 ∨ 3 < p2.toInt ∨ 60 < p3.toInt) ∧ 0 ≤ p3.toInt) ∧ p1.toInt = 2 ∧ ((aWi 0) 2).toInt = p2.toInt ∧ ((zMy 0) 2).toInt = p3.toInt) ∨ (¬ ((¬ (p1.toInt < 0 ∨ 3 < p1.toInt ∨ p2.toInt < 0 ∨ 3 < p2.toInt ∨ 60 < p3.toInt) ∧ 0 ≤ p3.toInt) ∧ p1.toInt = 2) ∧ ((aWi 0) 2).toInt = ((aWi 0) 2).toInt ∧ ((zMy 0) 2).toInt = ((zMy 0) 2).toInt); omega), (by show ((¬ (p1.toInt < 0 ∨ 3 < p1.toInt ∨ p2.toInt < 0 ∨ 3 < p2.toInt ∨ 60 < p3.toInt) ∧ 0 ≤ p3.toInt) ∧ p1.toInt = 3 ∧ ((aWi 0) 3).toInt = p2.toInt ∧ ((zMy 0) 3).toInt = p3.toInt) ∨ (¬ ((¬ (p1.toInt < 0 ∨ 3 < p1.toInt ∨ p2.toInt < 0 ∨ 3 < p2.toInt ∨ 60 < p3.toInt) ∧ 0 ≤ p3.toInt) ∧ p1.toInt = 3) ∧ ((aWi 0) 3).toInt = ((aWi 0) 3).toInt ∧ ((zMy 0) 3).toInt = ((zMy 0) 3).toInt); omega), by rw [ht]; exact hP⟩, hS.F ht⟩) hS.2.2 dX12_row_32
        · skip
          exact absurd cz24 (by decide)
      · obtain rfl := er.symm
        have zz25 : ¬ p2.toInt < (0 : Int) := by intro h9; apply cz19; rw [zi_ltL]; simp only [Int32.toInt_toInt64]; exact h9
        have zz26 : (3 : Int) < p2.toInt := by have h9 := zi_ltL.mp cz20; simp only [Int32.toInt_toInt64] at h9; exact h9
        refine lv_if_eq (tgt := 30) hx hb dX12_row_21 (by decide) (fun cz27 => ?_) (fun cz27 => ?_)
        · skip
          refine lv_bipush (v := (-2)) hx hb dX12_row_30 (by decide) ?_
          rw [hQ]
          exact W.iret (v := (-2 : Int32)) hx hb hr (fun t ht hW => ⟨⟨(-2 : Int32), (), rfl, (by show ((p1.toInt < 0 ∨ 3 < p1.toInt ∨ p2.toInt < 0 ∨ 3 < p2.toInt ∨ 60 < p3.toInt) ∧ (-2 : Int) = (-2)) ∨ (¬ (p1.toInt < 0 ∨ 3 < p1.toInt ∨ p2.toInt < 0 ∨ 3 < p2.toInt ∨ 60 < p3.toInt) ∧ p3.toInt < 0 ∧ (-2 : Int) = (-3)) ∨ (¬ (p1.toInt < 0 ∨ 3 < p1.toInt ∨ p2.toInt < 0 ∨ 3 < p2.toInt ∨ 60 < p3.toInt) ∧ 0 ≤ p3.toInt ∧ (-2 : Int) = 0); omega), (va_up vO 0 (0 : Int32)), tO, mO, gO, aWi, zMy, lCe, htO, hmO, hzMy, (by show ((¬ (p1.toInt < 0 ∨ 3 < p1.toInt ∨ p2.toInt < 0 ∨ 3 < p2.toInt ∨ 60 < p3.toInt) ∧ 0 ≤ p3.toInt) ∧ p1.toInt = 0 ∧ ((aWi 0) 0).toInt = p2.toInt ∧ ((zMy 0) 0).toInt = p3.toInt) ∨ (¬ ((¬ (p1.toInt < 0 ∨ 3 < p1.toInt ∨ p2.toInt < 0 ∨ 3 < p2.toInt ∨ 60 < p3.toInt) ∧ 0 ≤ p3.toInt) ∧ p1.toInt = 0) ∧ ((aWi 0) 0).toInt = ((aWi 0) 0).toInt ∧ ((zMy 0) 0).toInt = ((zMy 0) 0).toInt); omega), (by show ((¬ (p1.toInt < 0 ∨ 3 < p1.toInt ∨ p2.toInt < 0 ∨ 3 < p2.toInt ∨ 60 < p3.toInt) ∧ 0 ≤ p3.toInt) ∧ p1.toInt = 1 ∧ ((aWi 0) 1).toInt = p2.toInt ∧ ((zMy 0) 1).toInt = p3.toInt) ∨ (¬ ((¬ (p1.toInt < 0 ∨ 3 < p1.toInt ∨ p2.toInt < 0 ∨ 3 < p2.toInt ∨ 60 < p3.toInt) ∧ 0 ≤ p3.toInt) ∧ p1.toInt = 1) ∧ ((aWi 0) 1).toInt = ((aWi 0) 1).toInt ∧ ((zMy 0) 1).toInt = ((zMy 0) 1).toInt); omega), (by show ((¬ (p1.toInt < 0 ∨ 3 < p1.toInt ∨ p2.toInt < 0 ∨ 3 < p2.toInt ∨ 60 < p3.toInt) ∧ 0 ≤ p3.toInt) ∧ p1.toInt = 2 ∧ ((aWi 0) 2).toInt = p2.toInt ∧ ((zMy 0) 2).toInt = p3.toInt) ∨ (¬ ((¬ (p1.toInt < 0 ∨ 3 < p1.toInt ∨ p2.toInt < 0 ∨ 3 < p2.toInt ∨ 60 < p3.toInt) ∧ 0 ≤ p3.toInt) ∧ p1.toInt = 2) ∧ ((aWi 0) 2).toInt = ((aWi 0) 2).toInt ∧ ((zMy 0) 2).toInt = ((zMy 0) 2).toInt); omega), (by show ((¬ (p1.toInt < 0 ∨ 3 < p1.toInt ∨ p2.toInt < 0 ∨ 3 < p2.toInt ∨ 60 < p3.toInt) ∧ 0 ≤ p3.toInt) ∧ p1.toInt = 3 ∧ ((aWi 0) 3).toInt = p2.toInt ∧ ((zMy 0) 3).toInt = p3.toInt) ∨ (¬ ((¬ (p1.toInt < 0 ∨ 3 < p1.toInt ∨ p2.toInt < 0 ∨ 3 < p2.toInt ∨ 60 < p3.toInt) ∧ 0 ≤ p3.toInt) ∧ p1.toInt = 3) ∧ ((aWi 0) 3).toInt = ((aWi 0) 3).toInt ∧ ((zMy 0) 3).toInt = ((zMy 0) 3).toInt); omega), by rw [ht]; exact hP⟩, hS.F ht⟩) hS.2.2 dX12_row_32
        · skip
          exact absurd cz27 (by decide)
      · obtain rfl := er.symm
        have zz28 : ¬ p2.toInt < (0 : Int) := by intro h9; apply cz21; rw [zi_ltL]; simp only [Int32.toInt_toInt64]; exact h9
        have zz29 : ¬ (3 : Int) < p2.toInt := by intro h9; apply cz22; rw [zi_ltL]; simp only [Int32.toInt_toInt64]; exact h9
        refine lv_if_eq (tgt := 30) hx hb dX12_row_21 (by decide) (fun cz30 => ?_) (fun cz30 => ?_)
        · skip
          exact absurd cz30 (by decide)
        · skip
          refine lv_iload_n hx hb dX12_row_24 rfl (lv_at hl 3 rfl) ?_
          refine lv_bipush (v := 60) hx hb dX12_row_25 (by decide) ?_
          refine lv_icmp_le (tgt := 33) hx hb dX12_row_27 (by decide) (fun cz31 => ?_) (fun cz31 => ?_)
          · skip
            have bz32 := fb_rng p3
            have zz33 : p3.toInt ≤ (60 : Int) := zi_le.mp cz31
            refine lv_iload_n hx hb dX12_row_33 rfl (lv_at hl 3 rfl) ?_
            refine lv_if_ge (tgt := 40) hx hb dX12_row_34 (by decide) (fun cz34 => ?_) (fun cz34 => ?_)
            · skip
              have zz35 : (0 : Int) ≤ p3.toInt := zi_le.mp cz34
              refine lv_aload_n hx hb dX12_row_40 rfl (lv_at hl 0 rfl) ?_
              refine va_get (D := (dC, dI)) (ci := 12) (v := .ref (qWi 0)) (C := RX12) (T := TX12) (N := 59) hx hb hts (fun w h => List.mem_cons_of_mem _ (List.mem_append_right _ (List.mem_append_left _ h))) hown hK hP 0 rfl rfl 1 (by decide) (hts (.fieldLink RX12 7 "SagMemoryModel" "width" "[I") (wl_mem 7 rfl)) (fun _ h9 => h9) rfl dX12_row_41 ?_
              refine lv_iload_n hx hb dX12_row_44 rfl (lv_at hl 1 rfl) ?_
              refine lv_iload_n hx hb dX12_row_45 rfl (lv_at hl 2 rfl) ?_
              refine va_iast hx hb hK hP hD hS 1 0 rfl rfl (vp_in_iff.mpr ⟨by omega, by omega⟩) dX12_row_46 (fun H locs hP hD hS => ?_)
              obtain ⟨fz36, efz36, hP, hD⟩ : ∃ fz36 : Nat → Int32, fz36 = upd (aWi 0) p1.toNatClampNeg p2 ∧ va_P (dC, dI) vwCl (List.flatten [(wMO qO k (qWi 0) (qMy 0) (qCe 0) movedO tapeO linesO hasO bridgeO cartO wardO frostAtO actO isKeptO loadNowO byNowO rowO memoryO whoseO deepNowO brokenByO brokenAtO goesByO comesToO sagMoreO creakOfO wipedByO deepAtO sagAtO loadAtO orderRowO oftenO lossOneO lossOtherO (va_up vO 0 (0 : Int32)) tO mO gO), (wmWi qWi k (va_up aWi 0 fz36)), (wmMy qMy k zMy), (wmCe qCe k lCe)] ++ List.flatten ([] : List va_W)) H ∧ va_D A (List.flatten [(wMO qO k (qWi 0) (qMy 0) (qCe 0) movedO tapeO linesO hasO bridgeO cartO wardO frostAtO actO isKeptO loadNowO byNowO rowO memoryO whoseO deepNowO brokenByO brokenAtO goesByO comesToO sagMoreO creakOfO wipedByO deepAtO sagAtO loadAtO orderRowO oftenO lossOneO lossOtherO (va_up vO 0 (0 : Int32)) tO mO gO), (wmWi qWi k (va_up aWi 0 fz36)), (wmMy qMy k zMy), (wmCe qCe k lCe)] ++ List.flatten ([] : List va_W)) := ⟨_, rfl, hP, hD⟩
              have kfz36 : fz36 p1.toNatClampNeg = p2 := by rw [efz36]; exact pk_us
              have tfz36_0 : (p1.toInt = 0 ∧ (fz36 0).toInt = p2.toInt) ∨ (p1.toInt ≠ 0 ∧ (fz36 0).toInt = ((aWi 0) 0).toInt) := by rw [efz36]; exact upd_at 0 (by show 0 ≤ p1.toInt; omega)
              have tfz36_1 : (p1.toInt = 1 ∧ (fz36 1).toInt = p2.toInt) ∨ (p1.toInt ≠ 1 ∧ (fz36 1).toInt = ((aWi 0) 1).toInt) := by rw [efz36]; exact upd_at 1 (by show 0 ≤ p1.toInt; omega)
              have tfz36_2 : (p1.toInt = 2 ∧ (fz36 2).toInt = p2.toInt) ∨ (p1.toInt ≠ 2 ∧ (fz36 2).toInt = ((aWi 0) 2).toInt) := by rw [efz36]; exact upd_at 2 (by show 0 ≤ p1.toInt; omega)
              have tfz36_3 : (p1.toInt = 3 ∧ (fz36 3).toInt = p2.toInt) ∨ (p1.toInt ≠ 3 ∧ (fz36 3).toInt = ((aWi 0) 3).toInt) := by rw [efz36]; exact upd_at 3 (by show 0 ≤ p1.toInt; omega)
              refine lv_aload_n hx hb dX12_row_47 rfl (lv_at hl 0 rfl) ?_
              refine va_get (D := (dC, dI)) (ci := 12) (v := .ref (qMy 0)) (C := RX12) (T := TX12) (N := 59) hx hb hts (fun w h => List.mem_cons_of_mem _ (List.mem_append_right _ (List.mem_append_left _ h))) hown hK hP 0 rfl rfl 2 (by decide) (hts (.fieldLink RX12 13 "SagMemoryModel" "many" "[I") (wl_mem 8 rfl)) (fun _ h9 => h9) rfl dX12_row_48 ?_
              refine lv_iload_n hx hb dX12_row_51 rfl (lv_at hl 1 rfl) ?_
              refine lv_iload_n hx hb dX12_row_52 rfl (lv_at hl 3 rfl) ?_
              refine va_iast hx hb hK hP hD hS 2 0 rfl rfl (vp_in_iff.mpr ⟨by omega, by omega⟩) dX12_row_53 (fun H locs hP hD hS => ?_)
              obtain ⟨fz37, efz37, hP, hD⟩ : ∃ fz37 : Nat → Int32, fz37 = upd (zMy 0) p1.toNatClampNeg p3 ∧ va_P (dC, dI) vwCl (List.flatten [(wMO qO k (qWi 0) (qMy 0) (qCe 0) movedO tapeO linesO hasO bridgeO cartO wardO frostAtO actO isKeptO loadNowO byNowO rowO memoryO whoseO deepNowO brokenByO brokenAtO goesByO comesToO sagMoreO creakOfO wipedByO deepAtO sagAtO loadAtO orderRowO oftenO lossOneO lossOtherO (va_up vO 0 (0 : Int32)) tO mO gO), (wmWi qWi k (va_up aWi 0 fz36)), (wmMy qMy k (va_up zMy 0 fz37)), (wmCe qCe k lCe)] ++ List.flatten ([] : List va_W)) H ∧ va_D A (List.flatten [(wMO qO k (qWi 0) (qMy 0) (qCe 0) movedO tapeO linesO hasO bridgeO cartO wardO frostAtO actO isKeptO loadNowO byNowO rowO memoryO whoseO deepNowO brokenByO brokenAtO goesByO comesToO sagMoreO creakOfO wipedByO deepAtO sagAtO loadAtO orderRowO oftenO lossOneO lossOtherO (va_up vO 0 (0 : Int32)) tO mO gO), (wmWi qWi k (va_up aWi 0 fz36)), (wmMy qMy k (va_up zMy 0 fz37)), (wmCe qCe k lCe)] ++ List.flatten ([] : List va_W)) := ⟨_, rfl, hP, hD⟩
              have hfz37 : Rg 0 60 fz37 := by rw [efz37]; exact rg_upd (hzMy 0) (by show 0 ≤ p3.toInt ∧ p3.toInt ≤ 60; omega)
              have kfz37 : fz37 p1.toNatClampNeg = p3 := by rw [efz37]; exact pk_us
              have tfz37_0 : (p1.toInt = 0 ∧ (fz37 0).toInt = p3.toInt) ∨ (p1.toInt ≠ 0 ∧ (fz37 0).toInt = ((zMy 0) 0).toInt) := by rw [efz37]; exact upd_at 0 (by show 0 ≤ p1.toInt; omega)
              have tfz37_1 : (p1.toInt = 1 ∧ (fz37 1).toInt = p3.toInt) ∨ (p1.toInt ≠ 1 ∧ (fz37 1).toInt = ((zMy 0) 1).toInt) := by rw [efz37]; exact upd_at 1 (by show 0 ≤ p1.toInt; omega)
              have tfz37_2 : (p1.toInt = 2 ∧ (fz37 2).toInt = p3.toInt) ∨ (p1.toInt ≠ 2 ∧ (fz37 2).toInt = ((zMy 0) 2).toInt) := by rw [efz37]; exact upd_at 2 (by show 0 ≤ p1.toInt; omega)
              have tfz37_3 : (p1.toInt = 3 ∧ (fz37 3).toInt = p3.toInt) ∨ (p1.toInt ≠ 3 ∧ (fz37 3).toInt = ((zMy 0) 3).toInt) := by rw [efz37]; exact upd_at 3 (by show 0 ≤ p1.toInt; omega)
              refine lv_iconst (v := 0) hx hb dX12_row_54 (by decide) ?_
              refine lv_istore (lv' := [(4, .int 0), (0, .ref (qO 0)), (1, .int p1), (2, .int p2), (3, .int p3)]) hx hb dX12_row_55 hl (by decide) rfl (fun ls hl => ?_)
              have lp57_kz57 : ∀ (n9_57 : Nat) (H : Heap) (locs : List Loc) (ls : Array Slot) (lz55 : Nat → Nat → Int64) (xz56 : Int32), (2147483647 - xz56.toInt).toNat < n9_57 → 0 ≤ xz56.toInt → va_P (dC, dI) vwCl (List.flatten [(wMO qO k (qWi 0) (qMy 0) (qCe 0) movedO tapeO linesO hasO bridgeO cartO wardO frostAtO actO isKeptO loadNowO byNowO rowO memoryO whoseO deepNowO brokenByO brokenAtO goesByO comesToO sagMoreO creakOfO wipedByO deepAtO sagAtO loadAtO orderRowO oftenO lossOneO lossOtherO (va_up vO 0 (0 : Int32)) tO mO gO), (wmWi qWi k (va_up aWi 0 fz36)), (wmMy qMy k (va_up zMy 0 fz37)), (wmCe qCe k lz55)] ++ List.flatten ([] : List va_W)) H → va_D A (List.flatten [(wMO qO k (qWi 0) (qMy 0) (qCe 0) movedO tapeO linesO hasO bridgeO cartO wardO frostAtO actO isKeptO loadNowO byNowO rowO memoryO whoseO deepNowO brokenByO brokenAtO goesByO comesToO sagMoreO creakOfO wipedByO deepAtO sagAtO loadAtO orderRowO oftenO lossOneO lossOtherO (va_up vO 0 (0 : Int32)) tO mO gO), (wmWi qWi k (va_up aWi 0 fz36)), (wmMy qMy k (va_up zMy 0 fz37)), (wmCe qCe k lz55)] ++ List.flatten ([] : List va_W)) → va_S A s.heap H locs → lv_has ls 5 [(0, .ref (qO 0)), (1, .int p1), (3, .int p3), (4, .int xz56)] → W p l e (headSpec wk_c_X12_row_y ({ frames := 2, cells := 0, slots := 0, locals := 45 })).room s m ([.ref (qO 0), .int p1, .int p2, .int p3] : List Value).toArray below meth c H locs 0 0 Q (F0 m 57 ls []) := by
                intro n9_57
                induction n9_57 with
                | zero => intro H locs ls lz55 xz56 hm; exact absurd hm (Nat.not_lt_zero _)
                | succ n9_57 ih57 =>
                  intro H locs ls lz55 xz56 hm57 jz58 hP hD hS hl
                  refine lv_iload hx hb dX12_row_57 (lv_at hl 3 rfl) ?_
                  refine lv_iload_n hx hb dX12_row_59 rfl (lv_at hl 2 rfl) ?_
                  refine lv_icmp_ge (tgt := 82) hx hb dX12_row_60 (by decide) (fun cz59 => ?_) (fun cz59 => ?_)
                  · skip
                    have bz60 := fb_rng xz56
                    have zz61 : p3.toInt ≤ xz56.toInt := zi_le.mp cz59
                    refine lv_iconst (v := 0) hx hb dX12_row_82 (by decide) ?_
                    rw [hQ]
                    exact W.iret (v := (0 : Int32)) hx hb hr (fun t ht hW => ⟨⟨(0 : Int32), (), rfl, (by show ((p1.toInt < 0 ∨ 3 < p1.toInt ∨ p2.toInt < 0 ∨ 3 < p2.toInt ∨ 60 < p3.toInt) ∧ (0 : Int) = (-2)) ∨ (¬ (p1.toInt < 0 ∨ 3 < p1.toInt ∨ p2.toInt < 0 ∨ 3 < p2.toInt ∨ 60 < p3.toInt) ∧ p3.toInt < 0 ∧ (0 : Int) = (-3)) ∨ (¬ (p1.toInt < 0 ∨ 3 < p1.toInt ∨ p2.toInt < 0 ∨ 3 < p2.toInt ∨ 60 < p3.toInt) ∧ 0 ≤ p3.toInt ∧ (0 : Int) = 0); omega), (va_up vO 0 (0 : Int32)), tO, mO, gO, (va_up aWi 0 fz36), (va_up zMy 0 fz37), lz55, htO, hmO, (rga_up hzMy hfz37), (by show ((¬ (p1.toInt < 0 ∨ 3 < p1.toInt ∨ p2.toInt < 0 ∨ 3 < p2.toInt ∨ 60 < p3.toInt) ∧ 0 ≤ p3.toInt) ∧ p1.toInt = 0 ∧ (fz36 0).toInt = p2.toInt ∧ (fz37 0).toInt = p3.toInt) ∨ (¬ ((¬ (p1.toInt < 0 ∨ 3 < p1.toInt ∨ p2.toInt < 0 ∨ 3 < p2.toInt ∨ 60 < p3.toInt) ∧ 0 ≤ p3.toInt) ∧ p1.toInt = 0) ∧ (fz36 0).toInt = ((aWi 0) 0).toInt ∧ (fz37 0).toInt = ((zMy 0) 0).toInt); omega), (by show ((¬ (p1.toInt < 0 ∨ 3 < p1.toInt ∨ p2.toInt < 0 ∨ 3 < p2.toInt ∨ 60 < p3.toInt) ∧ 0 ≤ p3.toInt) ∧ p1.toInt = 1 ∧ (fz36 1).toInt = p2.toInt ∧ (fz37 1).toInt = p3.toInt) ∨ (¬ ((¬ (p1.toInt < 0 ∨ 3 < p1.toInt ∨ p2.toInt < 0 ∨ 3 < p2.toInt ∨ 60 < p3.toInt) ∧ 0 ≤ p3.toInt) ∧ p1.toInt = 1) ∧ (fz36 1).toInt = ((aWi 0) 1).toInt ∧ (fz37 1).toInt = ((zMy 0) 1).toInt); omega), (by show ((¬ (p1.toInt < 0 ∨ 3 < p1.toInt ∨ p2.toInt < 0 ∨ 3 < p2.toInt ∨ 60 < p3.toInt) ∧ 0 ≤ p3.toInt) ∧ p1.toInt = 2 ∧ (fz36 2).toInt = p2.toInt ∧ (fz37 2).toInt = p3.toInt) ∨ (¬ ((¬ (p1.toInt < 0 ∨ 3 < p1.toInt ∨ p2.toInt < 0 ∨ 3 < p2.toInt ∨ 60 < p3.toInt) ∧ 0 ≤ p3.toInt) ∧ p1.toInt = 2) ∧ (fz36 2).toInt = ((aWi 0) 2).toInt ∧ (fz37 2).toInt = ((zMy 0) 2).toInt); omega), (by show ((¬ (p1.toInt < 0 ∨ 3 < p1.toInt ∨ p2.toInt < 0 ∨ 3 < p2.toInt ∨ 60 < p3.toInt) ∧ 0 ≤ p3.toInt) ∧ p1.toInt = 3 ∧ (fz36 3).toInt = p2.toInt ∧ (fz37 3).toInt = p3.toInt) ∨ (¬ ((¬ (p1.toInt < 0 ∨ 3 < p1.toInt ∨ p2.toInt < 0 ∨ 3 < p2.toInt ∨ 60 < p3.toInt) ∧ 0 ≤ p3.toInt) ∧ p1.toInt = 3) ∧ (fz36 3).toInt = ((aWi 0) 3).toInt ∧ (fz37 3).toInt = ((zMy 0) 3).toInt); omega), by rw [ht]; exact hP⟩, hS.F ht⟩) hS.2.2 dX12_row_83
                  · skip
                    have bz62 := fb_rng xz56
                    have zz63 : ¬ p3.toInt ≤ xz56.toInt := fun h9 => cz59 (zi_le.mpr h9)
                    refine lv_aload_n hx hb dX12_row_63 rfl (lv_at hl 0 rfl) ?_
                    refine va_get (D := (dC, dI)) (ci := 12) (v := .ref (qCe 0)) (C := RX12) (T := TX12) (N := 59) hx hb hts (fun w h => List.mem_cons_of_mem _ (List.mem_append_right _ (List.mem_append_left _ h))) hown hK hP 0 rfl rfl 3 (by decide) (hts (.fieldLink RX12 16 "SagMemoryModel" "cells" "[J") (wl_mem 9 rfl)) (fun _ h9 => h9) rfl dX12_row_64 ?_
                    refine lv_bipush (v := 60) hx hb dX12_row_67 (by decide) ?_
                    refine lv_iload_n hx hb dX12_row_69 rfl (lv_at hl 1 rfl) ?_
                    refine lv_imul hx hb dX12_row_70 ?_
                    refine lv_topi (fun xz64 exz64 => ?_)
                    have fxz64 : xz64.toInt = (60 : Int) * p1.toInt := by rw [exz64]; exact fb_mulI (x := (60 : Int32)) (y := p1) (by show -2147483648 ≤ (60 : Int) * p1.toInt; omega) (by show (60 : Int) * p1.toInt < 2147483648; omega)
                    refine lv_iload hx hb dX12_row_71 (lv_at hl 3 rfl) ?_
                    refine lv_iadd hx hb dX12_row_73 ?_
                    refine lv_topi (fun xz65 exz65 => ?_)
                    have fxz65 : xz65.toInt = xz64.toInt + xz56.toInt := by rw [exz65]; exact fb_addI (x := xz64) (y := xz56) (by show -2147483648 ≤ xz64.toInt + xz56.toInt; omega) (by show xz64.toInt + xz56.toInt < 2147483648; omega)
                    refine lv_lconst (v := 0) hx hb dX12_row_74 (by decide) ?_
                    refine va_last hx hb hK hP hD hS 3 1 rfl rfl (vp_in_iff.mpr ⟨by omega, by omega⟩) dX12_row_75 (fun H locs hP hD hS => ?_)
                    obtain ⟨fz66, efz66, hP, hD⟩ : ∃ fz66 : Nat → Int64, fz66 = vp_updL (lz55 0) xz65.toNatClampNeg (0 : Int64) ∧ va_P (dC, dI) vwCl (List.flatten [(wMO qO k (qWi 0) (qMy 0) (qCe 0) movedO tapeO linesO hasO bridgeO cartO wardO frostAtO actO isKeptO loadNowO byNowO rowO memoryO whoseO deepNowO brokenByO brokenAtO goesByO comesToO sagMoreO creakOfO wipedByO deepAtO sagAtO loadAtO orderRowO oftenO lossOneO lossOtherO (va_up vO 0 (0 : Int32)) tO mO gO), (wmWi qWi k (va_up aWi 0 fz36)), (wmMy qMy k (va_up zMy 0 fz37)), (wmCe qCe k (va_up lz55 0 fz66))] ++ List.flatten ([] : List va_W)) H ∧ va_D A (List.flatten [(wMO qO k (qWi 0) (qMy 0) (qCe 0) movedO tapeO linesO hasO bridgeO cartO wardO frostAtO actO isKeptO loadNowO byNowO rowO memoryO whoseO deepNowO brokenByO brokenAtO goesByO comesToO sagMoreO creakOfO wipedByO deepAtO sagAtO loadAtO orderRowO oftenO lossOneO lossOtherO (va_up vO 0 (0 : Int32)) tO mO gO), (wmWi qWi k (va_up aWi 0 fz36)), (wmMy qMy k (va_up zMy 0 fz37)), (wmCe qCe k (va_up lz55 0 fz66))] ++ List.flatten ([] : List va_W)) := ⟨_, rfl, hP, hD⟩
                    have kfz66 : fz66 xz65.toNatClampNeg = (0 : Int64) := by rw [efz66]; exact pk_uLs
                    obtain ⟨xz67, exz67⟩ : ∃ y : Int32, y = xz56 + Int32.ofInt (1) := ⟨_, rfl⟩
                    have fxz67 : xz67.toInt = xz56.toInt + (1) := by rw [exz67]; exact fb_addI (y := Int32.ofInt (1)) (by show -2147483648 ≤ xz56.toInt + (1); omega) (by show xz56.toInt + (1) < 2147483648; omega)
                    refine lv_iinc (v := xz67) (lv' := [(4, .int xz67), (0, .ref (qO 0)), (1, .int p1), (3, .int p3)]) hx hb dX12_row_76 hl (k := 3) rfl exz67.symm (by decide) rfl (fun ls hl => ?_)
                    refine lv_goto (tgt := 57) hx hb dX12_row_79 (by decide) ?_
                    exact ih57 H locs ls (va_up lz55 0 fz66) xz67 (by show (2147483647 - xz67.toInt).toNat < n9_57; omega) (by show 0 ≤ xz67.toInt; omega) hP hD hS (lv_sub hl [1, 2, 3, 0] rfl)
              exact lp57_kz57 _ H locs ls lCe (0 : Int32) (Nat.lt_succ_self _) (by show 0 ≤ (0 : Int); omega) hP hD hS (lv_sub hl [1, 2, 4, 0] rfl)
            · skip
              have zz68 : ¬ (0 : Int) ≤ p3.toInt := fun h9 => cz34 (zi_le.mpr h9)
              refine lv_bipush (v := (-3)) hx hb dX12_row_37 (by decide) ?_
              rw [hQ]
              exact W.iret (v := (-3 : Int32)) hx hb hr (fun t ht hW => ⟨⟨(-3 : Int32), (), rfl, (by show ((p1.toInt < 0 ∨ 3 < p1.toInt ∨ p2.toInt < 0 ∨ 3 < p2.toInt ∨ 60 < p3.toInt) ∧ (-3 : Int) = (-2)) ∨ (¬ (p1.toInt < 0 ∨ 3 < p1.toInt ∨ p2.toInt < 0 ∨ 3 < p2.toInt ∨ 60 < p3.toInt) ∧ p3.toInt < 0 ∧ (-3 : Int) = (-3)) ∨ (¬ (p1.toInt < 0 ∨ 3 < p1.toInt ∨ p2.toInt < 0 ∨ 3 < p2.toInt ∨ 60 < p3.toInt) ∧ 0 ≤ p3.toInt ∧ (-3 : Int) = 0); omega), (va_up vO 0 (0 : Int32)), tO, mO, gO, aWi, zMy, lCe, htO, hmO, hzMy, (by show ((¬ (p1.toInt < 0 ∨ 3 < p1.toInt ∨ p2.toInt < 0 ∨ 3 < p2.toInt ∨ 60 < p3.toInt) ∧ 0 ≤ p3.toInt) ∧ p1.toInt = 0 ∧ ((aWi 0) 0).toInt = p2.toInt ∧ ((zMy 0) 0).toInt = p3.toInt) ∨ (¬ ((¬ (p1.toInt < 0 ∨ 3 < p1.toInt ∨ p2.toInt < 0 ∨ 3 < p2.toInt ∨ 60 < p3.toInt) ∧ 0 ≤ p3.toInt) ∧ p1.toInt = 0) ∧ ((aWi 0) 0).toInt = ((aWi 0) 0).toInt ∧ ((zMy 0) 0).toInt = ((zMy 0) 0).toInt); omega), (by show ((¬ (p1.toInt < 0 ∨ 3 < p1.toInt ∨ p2.toInt < 0 ∨ 3 < p2.toInt ∨ 60 < p3.toInt) ∧ 0 ≤ p3.toInt) ∧ p1.toInt = 1 ∧ ((aWi 0) 1).toInt = p2.toInt ∧ ((zMy 0) 1).toInt = p3.toInt) ∨ (¬ ((¬ (p1.toInt < 0 ∨ 3 < p1.toInt ∨ p2.toInt < 0 ∨ 3 < p2.toInt ∨ 60 < p3.toInt) ∧ 0 ≤ p3.toInt) ∧ p1.toInt = 1) ∧ ((aWi 0) 1).toInt = ((aWi 0) 1).toInt ∧ ((zMy 0) 1).toInt = ((zMy 0) 1).toInt); omega), (by show ((¬ (p1.toInt < 0 ∨ 3 < p1.toInt ∨ p2.toInt < 0 ∨ 3 < p2.toInt ∨ 60 < p3.toInt) ∧ 0 ≤ p3.toInt) ∧ p1.toInt = 2 ∧ ((aWi 0) 2).toInt = p2.toInt ∧ ((zMy 0) 2).toInt = p3.toInt) ∨ (¬ ((¬ (p1.toInt < 0 ∨ 3 < p1.toInt ∨ p2.toInt < 0 ∨ 3 < p2.toInt ∨ 60 < p3.toInt) ∧ 0 ≤ p3.toInt) ∧ p1.toInt = 2) ∧ ((aWi 0) 2).toInt = ((aWi 0) 2).toInt ∧ ((zMy 0) 2).toInt = ((zMy 0) 2).toInt); omega), (by show ((¬ (p1.toInt < 0 ∨ 3 < p1.toInt ∨ p2.toInt < 0 ∨ 3 < p2.toInt ∨ 60 < p3.toInt) ∧ 0 ≤ p3.toInt) ∧ p1.toInt = 3 ∧ ((aWi 0) 3).toInt = p2.toInt ∧ ((zMy 0) 3).toInt = p3.toInt) ∨ (¬ ((¬ (p1.toInt < 0 ∨ 3 < p1.toInt ∨ p2.toInt < 0 ∨ 3 < p2.toInt ∨ 60 < p3.toInt) ∧ 0 ≤ p3.toInt) ∧ p1.toInt = 3) ∧ ((aWi 0) 3).toInt = ((aWi 0) 3).toInt ∧ ((zMy 0) 3).toInt = ((zMy 0) 3).toInt); omega), by rw [ht]; exact hP⟩, hS.F ht⟩) hS.2.2 dX12_row_39
          · skip
            have bz69 := fb_rng p3
            have zz70 : ¬ p3.toInt ≤ (60 : Int) := fun h9 => cz31 (zi_le.mpr h9)
            refine lv_bipush (v := (-2)) hx hb dX12_row_30 (by decide) ?_
            rw [hQ]
            exact W.iret (v := (-2 : Int32)) hx hb hr (fun t ht hW => ⟨⟨(-2 : Int32), (), rfl, (by show ((p1.toInt < 0 ∨ 3 < p1.toInt ∨ p2.toInt < 0 ∨ 3 < p2.toInt ∨ 60 < p3.toInt) ∧ (-2 : Int) = (-2)) ∨ (¬ (p1.toInt < 0 ∨ 3 < p1.toInt ∨ p2.toInt < 0 ∨ 3 < p2.toInt ∨ 60 < p3.toInt) ∧ p3.toInt < 0 ∧ (-2 : Int) = (-3)) ∨ (¬ (p1.toInt < 0 ∨ 3 < p1.toInt ∨ p2.toInt < 0 ∨ 3 < p2.toInt ∨ 60 < p3.toInt) ∧ 0 ≤ p3.toInt ∧ (-2 : Int) = 0); omega), (va_up vO 0 (0 : Int32)), tO, mO, gO, aWi, zMy, lCe, htO, hmO, hzMy, (by show ((¬ (p1.toInt < 0 ∨ 3 < p1.toInt ∨ p2.toInt < 0 ∨ 3 < p2.toInt ∨ 60 < p3.toInt) ∧ 0 ≤ p3.toInt) ∧ p1.toInt = 0 ∧ ((aWi 0) 0).toInt = p2.toInt ∧ ((zMy 0) 0).toInt = p3.toInt) ∨ (¬ ((¬ (p1.toInt < 0 ∨ 3 < p1.toInt ∨ p2.toInt < 0 ∨ 3 < p2.toInt ∨ 60 < p3.toInt) ∧ 0 ≤ p3.toInt) ∧ p1.toInt = 0) ∧ ((aWi 0) 0).toInt = ((aWi 0) 0).toInt ∧ ((zMy 0) 0).toInt = ((zMy 0) 0).toInt); omega), (by show ((¬ (p1.toInt < 0 ∨ 3 < p1.toInt ∨ p2.toInt < 0 ∨ 3 < p2.toInt ∨ 60 < p3.toInt) ∧ 0 ≤ p3.toInt) ∧ p1.toInt = 1 ∧ ((aWi 0) 1).toInt = p2.toInt ∧ ((zMy 0) 1).toInt = p3.toInt) ∨ (¬ ((¬ (p1.toInt < 0 ∨ 3 < p1.toInt ∨ p2.toInt < 0 ∨ 3 < p2.toInt ∨ 60 < p3.toInt) ∧ 0 ≤ p3.toInt) ∧ p1.toInt = 1) ∧ ((aWi 0) 1).toInt = ((aWi 0) 1).toInt ∧ ((zMy 0) 1).toInt = ((zMy 0) 1).toInt); omega), (by show ((¬ (p1.toInt < 0 ∨ 3 < p1.toInt ∨ p2.toInt < 0 ∨ 3 < p2.toInt ∨ 60 < p3.toInt) ∧ 0 ≤ p3.toInt) ∧ p1.toInt = 2 ∧ ((aWi 0) 2).toInt = p2.toInt ∧ ((zMy 0) 2).toInt = p3.toInt) ∨ (¬ ((¬ (p1.toInt < 0 ∨ 3 < p1.toInt ∨ p2.toInt < 0 ∨ 3 < p2.toInt ∨ 60 < p3.toInt) ∧ 0 ≤ p3.toInt) ∧ p1.toInt = 2) ∧ ((aWi 0) 2).toInt = ((aWi 0) 2).toInt ∧ ((zMy 0) 2).toInt = ((zMy 0) 2).toInt); omega), (by show ((¬ (p1.toInt < 0 ∨ 3 < p1.toInt ∨ p2.toInt < 0 ∨ 3 < p2.toInt ∨ 60 < p3.toInt) ∧ 0 ≤ p3.toInt) ∧ p1.toInt = 3 ∧ ((aWi 0) 3).toInt = p2.toInt ∧ ((zMy 0) 3).toInt = p3.toInt) ∨ (¬ ((¬ (p1.toInt < 0 ∨ 3 < p1.toInt ∨ p2.toInt < 0 ∨ 3 < p2.toInt ∨ 60 < p3.toInt) ∧ 0 ≤ p3.toInt) ∧ p1.toInt = 3) ∧ ((aWi 0) 3).toInt = ((aWi 0) 3).toInt ∧ ((zMy 0) 3).toInt = ((zMy 0) 3).toInt); omega), by rw [ht]; exact hP⟩, hS.F ht⟩) hS.2.2 dX12_row_32
def wk_c_X11_write_x : List Cond := .code yX11_write cX11_write 6 (some .int) :: ([.methodLink RX11 380 yX11_hasSlot, .static yX11_hasSlot, .initialized RX11, .fieldLink RX11 85 "SagMemory" "slots" "[LSagMemory$Slot;", .fieldLink RX11 386 "SagMemory$Slot" "has" "Z", .fieldLink RX11 387 "SagMemory$Slot" "length" "I", .fieldLink RX11 388 "SagMemory$Slot" "numbers" "[J", .methodLink RX11 392 yX6_cut, .instanceMethod yX6_cut, .selects RX6 yX6_cut yX6_cut, .initialized RX6] ++ (wk_c_X11_hasSlot ++ (wsX110 ++ (wsX60 ++ (wk_c_X6_cut ++ [])))))
theorem wkg_c_X11_write_x : wk_c_X11_write_x.all goodWord = true := by decide +kernel
set_option maxHeartbeats 4000000 in
set_option maxRecDepth 100000 in
theorem c_X11_write_x (l : Launch) (dC : Nat → ClassId) (dI : Nat → Nat → Nat) (k : Nat → ClassId) (sz : Nat) (qX : Nat → Nat) (tapeX : Nat) (toldX : Nat) (actsX : Nat) (nowX : Nat) (trialX : Nat) (storyX : Nat) (attemptX : Nat) (orderSearchX : Nat) (routeSearchX : Nat) (setSearchX : Nat) (probeX : Nat) (image0X : Nat) (image1X : Nat) (image2X : Nat) (aX : Nat → Nat → Int32) (qL0 : Nat → Nat) (vL0 : Nat → Int32) (sL0 : Nat → Int32) (lL0 : Nat → Nat → Int64) (qL1 : Nat → Nat) (vL1 : Nat → Int32) (sL1 : Nat → Int32) (lL1 : Nat → Nat → Int64) (qL2 : Nat → Nat) (vL2 : Nat → Int32) (sL2 : Nat → Int32) (lL2 : Nat → Nat → Int64) (qL3 : Nat → Nat) (vL3 : Nat → Int32) (sL3 : Nat → Int32) (lL3 : Nat → Nat → Int64) (p1 : Int32) (p2 : Int32) (p3 : Int64) (hsL0 : Rg 0 60 sL0) (hsL1 : Rg 0 60 sL1) (hsL2 : Rg 0 60 sL2) (hsL3 : Rg 0 60 sL3) : Met l yX11_write wk_c_X11_write_x ({ frames := 1, cells := 0, slots := 0, locals := 22 }) (va_Pc [.ref (qX 0), .int p1, .int p2, .long p3] (fun U => U.heap.size = sz ∧ va_P (dC, dI) vwCl (List.flatten [(wSlot qL0 k vL0 sL0 lL0), (wSlot qL1 k vL1 sL1 lL1), (wSlot qL2 k vL2 sL2 lL2), (wSlot qL3 k vL3 sL3 lL3)] ++ List.flatten [(wSag qX k tapeX toldX actsX nowX trialX storyX attemptX orderSearchX routeSearchX setSearchX probeX (qL0 0) (qL1 0) (qL2 0) (qL3 0) image0X image1X image2X aX)]) U.heap ∧ va_K (dC, dI) vwCl (tK k) U ∧ va_D (fun _ => True) (List.flatten [(wSlot qL0 k vL0 sL0 lL0), (wSlot qL1 k vL1 sL1 lL1), (wSlot qL2 k vL2 sL2 lL2), (wSlot qL3 k vL3 sL3 lL3)] ++ List.flatten [(wSag qX k tapeX toldX actsX nowX trialX storyX attemptX orderSearchX routeSearchX setSearchX probeX (qL0 0) (qL1 0) (qL2 0) (qL3 0) image0X image1X image2X aX)]))) (va_Qi (fun (r : Int32) (_ : Unit) => True) (fun (_ : Unit) (t : State) => ∃ (vL0' : Nat → Int32) (sL0' : Nat → Int32) (lL0' : Nat → Nat → Int64) (vL1' : Nat → Int32) (sL1' : Nat → Int32) (lL1' : Nat → Nat → Int64) (vL2' : Nat → Int32) (sL2' : Nat → Int32) (lL2' : Nat → Nat → Int64) (vL3' : Nat → Int32) (sL3' : Nat → Int32) (lL3' : Nat → Nat → Int64), Rg 0 60 sL0' ∧ Rg 0 60 sL1' ∧ Rg 0 60 sL2' ∧ Rg 0 60 sL3' ∧ ((vL0' 0).toInt = (vL0 0).toInt ∧ (vL0' 1).toInt = (vL0 1).toInt ∧ (sL0' 0).toInt = (sL0 0).toInt) ∧ ((vL1' 0).toInt = (vL1 0).toInt ∧ (vL1' 1).toInt = (vL1 1).toInt ∧ (sL1' 0).toInt = (sL1 0).toInt) ∧ ((vL2' 0).toInt = (vL2 0).toInt ∧ (vL2' 1).toInt = (vL2 1).toInt ∧ (sL2' 0).toInt = (sL2 0).toInt) ∧ ((vL3' 0).toInt = (vL3 0).toInt ∧ (vL3' 1).toInt = (vL3 1).toInt ∧ (sL3' 0).toInt = (sL3 0).toInt) ∧ va_P (dC, dI) vwCl (List.flatten [(wSlot qL0 k vL0' sL0' lL0'), (wSlot qL1 k vL1' sL1' lL1'), (wSlot qL2 k vL2' sL2' lL2'), (wSlot qL3 k vL3' sL3' lL3')] ++ List.flatten [(wSag qX k tapeX toldX actsX nowX trialX storyX attemptX orderSearchX routeSearchX setSearchX probeX (qL0 0) (qL1 0) (qL2 0) (qL3 0) image0X image1X image2X aX)]) t.heap) (va_A (List.flatten [(wSlot qL0 k vL0 sL0 lL0), (wSlot qL1 k vL1 sL1 lL1), (wSlot qL2 k vL2 sL2 lL2), (wSlot qL3 k vL3 sL3 lL3)] ++ List.flatten [(wSag qX k tapeX toldX actsX nowX trialX storyX attemptX orderSearchX routeSearchX setSearchX probeX (qL0 0) (qL1 0) (qL2 0) (qL3 0) image0X image1X image2X aX)]) sz)) 0 0 (va_A (List.flatten [(wSlot qL0 k vL0 sL0 lL0), (wSlot qL1 k vL1 sL1 lL1), (wSlot qL2 k vL2 sL2 lL2), (wSlot qL3 k vL3 sL3 lL3)] ++ List.flatten [(wSag qX k tapeX toldX actsX nowX trialX storyX attemptX orderSearchX routeSearchX setSearchX probeX (qL0 0) (qL1 0) (qL2 0) (qL3 0) image0X image1X image2X aX)]) sz) := by
  refine Met.ofW (cc := cX11_write) (maxL := 6) (ret := (some .int)) (by decide) rfl ?_
  intro p e s m args below meth c s₁ B hml hv
  obtain ⟨rfl, hsz, hP, hK, hD0⟩ := hv
  have hx := B.exec
  have hb := B.bytes
  have hr := B.returns
  have hts := atoms_spec (ws := wk_c_X11_write_x) B.pre
  have hown : s.vm.findClass RX11 = some m.cls := findClass_of_methodNamed B.named
  have hlocks := B.notSynchronized
  subst hsz
  have hD := hD0.self (sz := s.heap.size)
  generalize hAe : va_A (List.flatten [(wSlot qL0 k vL0 sL0 lL0), (wSlot qL1 k vL1 sL1 lL1), (wSlot qL2 k vL2 sL2 lL2), (wSlot qL3 k vL3 sL3 lL3)] ++ List.flatten [(wSag qX k tapeX toldX actsX nowX trialX storyX attemptX orderSearchX routeSearchX setSearchX probeX (qL0 0) (qL1 0) (qL2 0) (qL3 0) image0X image1X image2X aX)]) s.heap.size = A at hD ⊢
  have hA : ∀ q : Nat, s.heap.size ≤ q → A q := fun q h => by rw [← hAe]; exact Or.inr h
  have hS : va_S A s.heap s.heap [] := va_S.rf
  have hP : va_P (dC, dI) vwCl (List.flatten [(wSlot qL0 k vL0 sL0 lL0), (wSlot qL1 k vL1 sL1 lL1), (wSlot qL2 k vL2 sL2 lL2), (wSlot qL3 k vL3 sL3 lL3)] ++ List.flatten [(wSag qX k tapeX toldX actsX nowX trialX storyX attemptX orderSearchX routeSearchX setSearchX probeX (qL0 0) (qL1 0) (qL2 0) (qL3 0) image0X image1X image2X aX)]) s.heap := hP
  have hl := lv_entry ([.ref (qX 0), .int p1, .int p2, .long p3]) (n := 6) (Nat.le_of_ble_eq_true rfl)
  rw [lg_entry_eq]
  generalize (lg_sl ([.ref (qX 0), .int p1, .int p2, .long p3]) ++ List.replicate (6 - (lg_sl ([.ref (qX 0), .int p1, .int p2, .long p3])).length) Slot.unset).toArray = ls at hl ⊢
  have hl : lv_has ls 6 [(0, .ref (qX 0)), (1, .int p1), (2, .int p2), (3, .long p3)] := hl
  refine w_gen (fun Q hQ => ?_)
  refine lv_iload_n hx hb dX11_write_0 rfl (lv_at hl 1 rfl) ?_
  have hPc : va_P (dC, dI) vwCl (List.flatten ([] : List va_W)) s.heap := fun k q h => by simp at h
  refine vp_callSi (va_Run.run (va_runS (As := [.int p1]) (rest := []) ⟨hx, hb, hml, hown, hts⟩ (c_X11_hasSlot l dC dI k p1) (va_cwS 1 hts (gk_S (wl_mem 0 rfl) (wl_mem 1 rfl) (wl_mem 2 rfl) (fun w h => List.mem_cons_of_mem _ (List.mem_append_right _ (List.mem_append_left _ h))) wkg_c_X11_hasSlot) rfl rfl rfl (by decide +kernel) ⟨Nat.le_of_ble_eq_true rfl, Nat.le_of_ble_eq_true rfl⟩) ⟨fun a U g mk q => by obtain ⟨q0, qP, qK⟩ := q; exact ⟨q0, qP, va_K.moved (u := U) (U := U.calling g mk a) (Vm.Alike.refl U.vm) qK⟩, fun U hU hW => ⟨rfl, by rw [hU]; exact hPc, va_K.moved hW.alike hK⟩⟩ rfl rfl hl.1 rfl (lv_room (Nat.le_of_ble_eq_true rfl)) dX11_write_1 ⟨Nat.le_of_ble_eq_true rfl, Nat.le_of_ble_eq_true rfl⟩)) (fun rz2 gz1 => ?_)
  clear hPc
  rcases gz1 with ⟨er, cz3⟩ | ⟨er, cz4, cz5⟩ | ⟨er, cz6, cz7⟩
  · obtain rfl := er.symm
    have bz8 := fb_rng p1
    have zz9 : p1.toInt < (0 : Int) := zi_lt.mp cz3
    refine lv_if_ne (tgt := 10) hx hb dX11_write_4 (by decide) (fun cz10 => ?_) (fun cz10 => ?_)
    · skip
      exact absurd cz10 (by decide)
    · skip
      refine lv_bipush (v := (-2)) hx hb dX11_write_7 (by decide) ?_
      rw [hQ]
      exact W.iret (v := (-2 : Int32)) hx hb hr (fun t ht hW => ⟨⟨(-2 : Int32), (), rfl, trivial, vL0, sL0, lL0, vL1, sL1, lL1, vL2, sL2, lL2, vL3, sL3, lL3, hsL0, hsL1, hsL2, hsL3, (show (vL0 0).toInt = (vL0 0).toInt ∧ (vL0 1).toInt = (vL0 1).toInt ∧ (sL0 0).toInt = (sL0 0).toInt from ⟨rfl, rfl, rfl⟩), (show (vL1 0).toInt = (vL1 0).toInt ∧ (vL1 1).toInt = (vL1 1).toInt ∧ (sL1 0).toInt = (sL1 0).toInt from ⟨rfl, rfl, rfl⟩), (show (vL2 0).toInt = (vL2 0).toInt ∧ (vL2 1).toInt = (vL2 1).toInt ∧ (sL2 0).toInt = (sL2 0).toInt from ⟨rfl, rfl, rfl⟩), (show (vL3 0).toInt = (vL3 0).toInt ∧ (vL3 1).toInt = (vL3 1).toInt ∧ (sL3 0).toInt = (sL3 0).toInt from ⟨rfl, rfl, rfl⟩), by rw [ht]; exact hP⟩, hS.F ht⟩) hS.2.2 dX11_write_9
  · obtain rfl := er.symm
    have bz11 := fb_rng p1
    have zz12 : ¬ p1.toInt < (0 : Int) := fun h9 => cz4 (zi_lt.mpr h9)
    have zz13 : (4 : Int) ≤ p1.toInt := zi_le.mp cz5
    refine lv_if_ne (tgt := 10) hx hb dX11_write_4 (by decide) (fun cz14 => ?_) (fun cz14 => ?_)
    · skip
      exact absurd cz14 (by decide)
    · skip
      refine lv_bipush (v := (-2)) hx hb dX11_write_7 (by decide) ?_
      rw [hQ]
      exact W.iret (v := (-2 : Int32)) hx hb hr (fun t ht hW => ⟨⟨(-2 : Int32), (), rfl, trivial, vL0, sL0, lL0, vL1, sL1, lL1, vL2, sL2, lL2, vL3, sL3, lL3, hsL0, hsL1, hsL2, hsL3, (show (vL0 0).toInt = (vL0 0).toInt ∧ (vL0 1).toInt = (vL0 1).toInt ∧ (sL0 0).toInt = (sL0 0).toInt from ⟨rfl, rfl, rfl⟩), (show (vL1 0).toInt = (vL1 0).toInt ∧ (vL1 1).toInt = (vL1 1).toInt ∧ (sL1 0).toInt = (sL1 0).toInt from ⟨rfl, rfl, rfl⟩), (show (vL2 0).toInt = (vL2 0).toInt ∧ (vL2 1).toInt = (vL2 1).toInt ∧ (sL2 0).toInt = (sL2 0).toInt from ⟨rfl, rfl, rfl⟩), (show (vL3 0).toInt = (vL3 0).toInt ∧ (vL3 1).toInt = (vL3 1).toInt ∧ (sL3 0).toInt = (sL3 0).toInt from ⟨rfl, rfl, rfl⟩), by rw [ht]; exact hP⟩, hS.F ht⟩) hS.2.2 dX11_write_9
  · obtain rfl := er.symm
    have bz15 := fb_rng p1
    have zz16 : ¬ p1.toInt < (0 : Int) := fun h9 => cz6 (zi_lt.mpr h9)
    have zz17 : ¬ (4 : Int) ≤ p1.toInt := fun h9 => cz7 (zi_le.mpr h9)
    refine lv_if_ne (tgt := 10) hx hb dX11_write_4 (by decide) (fun cz18 => ?_) (fun cz18 => ?_)
    · skip
      refine lv_aload_n hx hb dX11_write_10 rfl (lv_at hl 0 rfl) ?_
      refine va_get (D := (dC, dI)) (ci := 11) (v := .ref (qX 3)) (C := RX11) (T := TX11) (N := 15) hx hb hts (fun w h => List.mem_cons_of_mem _ (List.mem_append_right _ (List.mem_append_right _ (List.mem_append_left _ h)))) hown hK hP 8 rfl rfl 13 (by decide) (hts (.fieldLink RX11 85 "SagMemory" "slots" "[LSagMemory$Slot;") (wl_mem 3 rfl)) (fun _ h9 => h9) rfl dX11_write_11 ?_
      refine lv_iload_n hx hb dX11_write_14 rfl (lv_at hl 1 rfl) ?_
      rcases (show p1 = 0 ∨ p1 = 1 ∨ p1 = 2 ∨ p1 = 3 by simp only [zi_eq]; show p1.toInt = 0 ∨ p1.toInt = 1 ∨ p1.toInt = 2 ∨ p1.toInt = 3; omega) with cz19 | cz19 | cz19 | cz19
      · skip
        have zz20 : p1.toInt = (0 : Int) := zi_eq.mp cz19
        refine W.eq (g2 := F0 m 15 ls [.int 0, .ref (qX 3)]) (by rw [cz19]) ?_
        refine va_aldq hx hb hK hP 11 6 rfl rfl (by unfold vp_in; decide) dX11_write_15 ?_
        refine W.eq (g2 := F0 m 16 ls [.ref (qL0 0)]) rfl ?_
        refine lv_astore (lv' := [(5, .ref (qL0 0)), (0, .ref (qX 0)), (1, .int p1), (2, .int p2), (3, .long p3)]) hx hb dX11_write_16 hl (by decide) rfl (fun ls hl => ?_)
        refine lv_aload hx hb dX11_write_18 (lv_at hl 0 rfl) ?_
        refine va_get (D := (dC, dI)) (ci := 6) (v := .int (vL0 0)) (C := RX6) (T := TX6) (N := 4) hx hb hts (fun w h => List.mem_cons_of_mem _ (List.mem_append_right _ (List.mem_append_right _ (List.mem_append_right _ (List.mem_append_left _ h))))) hown hK hP 0 rfl rfl 1 (by decide) (hts (.fieldLink RX11 386 "SagMemory$Slot" "has" "Z") (wl_mem 4 rfl)) (fun _ h9 => h9) rfl dX11_write_20 ?_
        refine lv_if_ne (tgt := 29) hx hb dX11_write_23 (by decide) (fun cz21 => ?_) (fun cz21 => ?_)
        · skip
          have zz22 : ¬ (vL0 0).toInt = (0 : Int) := fun h9 => cz21 (zi_eq.mpr h9)
          refine lv_iload_n hx hb dX11_write_29 rfl (lv_at hl 3 rfl) ?_
          refine lv_if_lt (tgt := 42) hx hb dX11_write_30 (by decide) (fun cz23 => ?_) (fun cz23 => ?_)
          · skip
            have bz24 := fb_rng p2
            have zz25 : p2.toInt < (0 : Int) := zi_lt.mp cz23
            refine lv_bipush (v := (-7)) hx hb dX11_write_42 (by decide) ?_
            rw [hQ]
            exact W.iret (v := (-7 : Int32)) hx hb hr (fun t ht hW => ⟨⟨(-7 : Int32), (), rfl, trivial, vL0, sL0, lL0, vL1, sL1, lL1, vL2, sL2, lL2, vL3, sL3, lL3, hsL0, hsL1, hsL2, hsL3, (show (vL0 0).toInt = (vL0 0).toInt ∧ (vL0 1).toInt = (vL0 1).toInt ∧ (sL0 0).toInt = (sL0 0).toInt from ⟨rfl, rfl, rfl⟩), (show (vL1 0).toInt = (vL1 0).toInt ∧ (vL1 1).toInt = (vL1 1).toInt ∧ (sL1 0).toInt = (sL1 0).toInt from ⟨rfl, rfl, rfl⟩), (show (vL2 0).toInt = (vL2 0).toInt ∧ (vL2 1).toInt = (vL2 1).toInt ∧ (sL2 0).toInt = (sL2 0).toInt from ⟨rfl, rfl, rfl⟩), (show (vL3 0).toInt = (vL3 0).toInt ∧ (vL3 1).toInt = (vL3 1).toInt ∧ (sL3 0).toInt = (sL3 0).toInt from ⟨rfl, rfl, rfl⟩), by rw [ht]; exact hP⟩, hS.F ht⟩) hS.2.2 dX11_write_44
          · skip
            have bz26 := fb_rng p2
            have zz27 : ¬ p2.toInt < (0 : Int) := fun h9 => cz23 (zi_lt.mpr h9)
            refine lv_iload_n hx hb dX11_write_33 rfl (lv_at hl 3 rfl) ?_
            refine lv_aload hx hb dX11_write_34 (lv_at hl 0 rfl) ?_
            refine va_get (D := (dC, dI)) (ci := 6) (v := .int (sL0 0)) (C := RX6) (T := TX6) (N := 4) hx hb hts (fun w h => List.mem_cons_of_mem _ (List.mem_append_right _ (List.mem_append_right _ (List.mem_append_right _ (List.mem_append_left _ h))))) hown hK hP 0 rfl rfl 3 (by decide) (hts (.fieldLink RX11 387 "SagMemory$Slot" "length" "I") (wl_mem 5 rfl)) (fun _ h9 => h9) rfl dX11_write_36 ?_
            have bz28 := hsL0 0
            refine lv_icmp_lt (tgt := 45) hx hb dX11_write_39 (by decide) (fun cz29 => ?_) (fun cz29 => ?_)
            · skip
              have zz30 : p2.toInt < (sL0 0).toInt := zi_lt.mp cz29
              refine lv_aload hx hb dX11_write_45 (lv_at hl 0 rfl) ?_
              refine va_get (D := (dC, dI)) (ci := 6) (v := .ref (qL0 1)) (C := RX6) (T := TX6) (N := 4) hx hb hts (fun w h => List.mem_cons_of_mem _ (List.mem_append_right _ (List.mem_append_right _ (List.mem_append_right _ (List.mem_append_left _ h))))) hown hK hP 0 rfl rfl 0 (by decide) (hts (.fieldLink RX11 388 "SagMemory$Slot" "numbers" "[J") (wl_mem 6 rfl)) (fun _ h9 => h9) rfl dX11_write_47 ?_
              refine lv_iload_n hx hb dX11_write_50 rfl (lv_at hl 3 rfl) ?_
              refine lv_aload hx hb dX11_write_51 (lv_at hl 0 rfl) ?_
              refine lv_lload_n hx hb dX11_write_53 rfl (lv_at hl 4 rfl) ?_
              have hPc := hP.sub (ws' := (List.flatten [(wSlot qL0 k vL0 sL0 lL0)])) [0, 1] rfl
              refine vp_callSl (va_Run.run (va_runV (As := [.long p3]) (rest := [.int p2, .ref (qL0 1)]) ⟨hx, hb, hml, hown, hts⟩ (c_X6_cut l dC dI k qL0 vL0 sL0 lL0 p3 hsL0) (cwV 1 hts (gk_V (wl_mem 7 rfl) (wl_mem 8 rfl) (wl_mem 9 rfl) (wl_mem 10 rfl) (fun w h => List.mem_cons_of_mem _ (List.mem_append_right _ (List.mem_append_right _ (List.mem_append_right _ (List.mem_append_right _ (List.mem_append_left _ h)))))) wkg_c_X6_cut) rfl rfl rfl (by decide +kernel) ⟨Nat.le_of_ble_eq_true rfl, Nat.le_of_ble_eq_true rfl⟩) ⟨fun a U g mk q => by obtain ⟨q0, qP, qK⟩ := q; exact ⟨q0, qP, va_K.moved (u := U) (U := U.calling g mk a) (Vm.Alike.refl U.vm) qK⟩, va_recv hK hPc (ci := 6) (q0 := 0) rfl rfl, fun U hU hW => ⟨rfl, by rw [hU]; exact hPc, va_K.moved hW.alike hK⟩⟩ rfl rfl hl.1 rfl (lv_room (Nat.le_of_ble_eq_true rfl)) dX11_write_54 ⟨Nat.le_of_ble_eq_true rfl, Nat.le_of_ble_eq_true rfl⟩)) (fun rz32 gz31 => ?_)
              clear hPc
              refine va_last hx hb hK hP hD hS 1 1 rfl rfl (vp_in_iff.mpr ⟨by omega, by omega⟩) dX11_write_57 (fun H locs hP hD hS => ?_)
              obtain ⟨fz33, efz33, hP, hD⟩ : ∃ fz33 : Nat → Int64, fz33 = vp_updL (lL0 0) p2.toNatClampNeg rz32 ∧ va_P (dC, dI) vwCl (List.flatten [(wSlot qL0 k vL0 sL0 (va_up lL0 0 fz33)), (wSlot qL1 k vL1 sL1 lL1), (wSlot qL2 k vL2 sL2 lL2), (wSlot qL3 k vL3 sL3 lL3)] ++ List.flatten [(wSag qX k tapeX toldX actsX nowX trialX storyX attemptX orderSearchX routeSearchX setSearchX probeX (qL0 0) (qL1 0) (qL2 0) (qL3 0) image0X image1X image2X aX)]) H ∧ va_D A (List.flatten [(wSlot qL0 k vL0 sL0 (va_up lL0 0 fz33)), (wSlot qL1 k vL1 sL1 lL1), (wSlot qL2 k vL2 sL2 lL2), (wSlot qL3 k vL3 sL3 lL3)] ++ List.flatten [(wSag qX k tapeX toldX actsX nowX trialX storyX attemptX orderSearchX routeSearchX setSearchX probeX (qL0 0) (qL1 0) (qL2 0) (qL3 0) image0X image1X image2X aX)]) := ⟨_, rfl, hP, hD⟩
              have kfz33 : fz33 p2.toNatClampNeg = rz32 := by rw [efz33]; exact pk_uLs
              refine lv_iconst (v := 0) hx hb dX11_write_58 (by decide) ?_
              rw [hQ]
              exact W.iret (v := (0 : Int32)) hx hb hr (fun t ht hW => ⟨⟨(0 : Int32), (), rfl, trivial, vL0, sL0, (va_up lL0 0 fz33), vL1, sL1, lL1, vL2, sL2, lL2, vL3, sL3, lL3, hsL0, hsL1, hsL2, hsL3, (show (vL0 0).toInt = (vL0 0).toInt ∧ (vL0 1).toInt = (vL0 1).toInt ∧ (sL0 0).toInt = (sL0 0).toInt from ⟨rfl, rfl, rfl⟩), (show (vL1 0).toInt = (vL1 0).toInt ∧ (vL1 1).toInt = (vL1 1).toInt ∧ (sL1 0).toInt = (sL1 0).toInt from ⟨rfl, rfl, rfl⟩), (show (vL2 0).toInt = (vL2 0).toInt ∧ (vL2 1).toInt = (vL2 1).toInt ∧ (sL2 0).toInt = (sL2 0).toInt from ⟨rfl, rfl, rfl⟩), (show (vL3 0).toInt = (vL3 0).toInt ∧ (vL3 1).toInt = (vL3 1).toInt ∧ (sL3 0).toInt = (sL3 0).toInt from ⟨rfl, rfl, rfl⟩), by rw [ht]; exact hP⟩, hS.F ht⟩) hS.2.2 dX11_write_59
            · skip
              have zz34 : ¬ p2.toInt < (sL0 0).toInt := fun h9 => cz29 (zi_lt.mpr h9)
              refine lv_bipush (v := (-7)) hx hb dX11_write_42 (by decide) ?_
              rw [hQ]
              exact W.iret (v := (-7 : Int32)) hx hb hr (fun t ht hW => ⟨⟨(-7 : Int32), (), rfl, trivial, vL0, sL0, lL0, vL1, sL1, lL1, vL2, sL2, lL2, vL3, sL3, lL3, hsL0, hsL1, hsL2, hsL3, (show (vL0 0).toInt = (vL0 0).toInt ∧ (vL0 1).toInt = (vL0 1).toInt ∧ (sL0 0).toInt = (sL0 0).toInt from ⟨rfl, rfl, rfl⟩), (show (vL1 0).toInt = (vL1 0).toInt ∧ (vL1 1).toInt = (vL1 1).toInt ∧ (sL1 0).toInt = (sL1 0).toInt from ⟨rfl, rfl, rfl⟩), (show (vL2 0).toInt = (vL2 0).toInt ∧ (vL2 1).toInt = (vL2 1).toInt ∧ (sL2 0).toInt = (sL2 0).toInt from ⟨rfl, rfl, rfl⟩), (show (vL3 0).toInt = (vL3 0).toInt ∧ (vL3 1).toInt = (vL3 1).toInt ∧ (sL3 0).toInt = (sL3 0).toInt from ⟨rfl, rfl, rfl⟩), by rw [ht]; exact hP⟩, hS.F ht⟩) hS.2.2 dX11_write_44
        · skip
          have zz35 : (vL0 0).toInt = (0 : Int) := zi_eq.mp cz21
          refine lv_bipush (v := (-6)) hx hb dX11_write_26 (by decide) ?_
          rw [hQ]
          exact W.iret (v := (-6 : Int32)) hx hb hr (fun t ht hW => ⟨⟨(-6 : Int32), (), rfl, trivial, vL0, sL0, lL0, vL1, sL1, lL1, vL2, sL2, lL2, vL3, sL3, lL3, hsL0, hsL1, hsL2, hsL3, (show (vL0 0).toInt = (vL0 0).toInt ∧ (vL0 1).toInt = (vL0 1).toInt ∧ (sL0 0).toInt = (sL0 0).toInt from ⟨rfl, rfl, rfl⟩), (show (vL1 0).toInt = (vL1 0).toInt ∧ (vL1 1).toInt = (vL1 1).toInt ∧ (sL1 0).toInt = (sL1 0).toInt from ⟨rfl, rfl, rfl⟩), (show (vL2 0).toInt = (vL2 0).toInt ∧ (vL2 1).toInt = (vL2 1).toInt ∧ (sL2 0).toInt = (sL2 0).toInt from ⟨rfl, rfl, rfl⟩), (show (vL3 0).toInt = (vL3 0).toInt ∧ (vL3 1).toInt = (vL3 1).toInt ∧ (sL3 0).toInt = (sL3 0).toInt from ⟨rfl, rfl, rfl⟩), by rw [ht]; exact hP⟩, hS.F ht⟩) hS.2.2 dX11_write_28
      · skip
        have zz36 : p1.toInt = (1 : Int) := zi_eq.mp cz19
        refine W.eq (g2 := F0 m 15 ls [.int 1, .ref (qX 3)]) (by rw [cz19]) ?_
        refine va_aldq hx hb hK hP 11 6 rfl rfl (by unfold vp_in; decide) dX11_write_15 ?_
        refine W.eq (g2 := F0 m 16 ls [.ref (qL1 0)]) rfl ?_
        refine lv_astore (lv' := [(5, .ref (qL1 0)), (0, .ref (qX 0)), (1, .int p1), (2, .int p2), (3, .long p3)]) hx hb dX11_write_16 hl (by decide) rfl (fun ls hl => ?_)
        refine lv_aload hx hb dX11_write_18 (lv_at hl 0 rfl) ?_
        refine va_get (D := (dC, dI)) (ci := 6) (v := .int (vL1 0)) (C := RX6) (T := TX6) (N := 4) hx hb hts (fun w h => List.mem_cons_of_mem _ (List.mem_append_right _ (List.mem_append_right _ (List.mem_append_right _ (List.mem_append_left _ h))))) hown hK hP 2 rfl rfl 1 (by decide) (hts (.fieldLink RX11 386 "SagMemory$Slot" "has" "Z") (wl_mem 4 rfl)) (fun _ h9 => h9) rfl dX11_write_20 ?_
        refine lv_if_ne (tgt := 29) hx hb dX11_write_23 (by decide) (fun cz37 => ?_) (fun cz37 => ?_)
        · skip
          have zz38 : ¬ (vL1 0).toInt = (0 : Int) := fun h9 => cz37 (zi_eq.mpr h9)
          refine lv_iload_n hx hb dX11_write_29 rfl (lv_at hl 3 rfl) ?_
          refine lv_if_lt (tgt := 42) hx hb dX11_write_30 (by decide) (fun cz39 => ?_) (fun cz39 => ?_)
          · skip
            have bz40 := fb_rng p2
            have zz41 : p2.toInt < (0 : Int) := zi_lt.mp cz39
            refine lv_bipush (v := (-7)) hx hb dX11_write_42 (by decide) ?_
            rw [hQ]
            exact W.iret (v := (-7 : Int32)) hx hb hr (fun t ht hW => ⟨⟨(-7 : Int32), (), rfl, trivial, vL0, sL0, lL0, vL1, sL1, lL1, vL2, sL2, lL2, vL3, sL3, lL3, hsL0, hsL1, hsL2, hsL3, (show (vL0 0).toInt = (vL0 0).toInt ∧ (vL0 1).toInt = (vL0 1).toInt ∧ (sL0 0).toInt = (sL0 0).toInt from ⟨rfl, rfl, rfl⟩), (show (vL1 0).toInt = (vL1 0).toInt ∧ (vL1 1).toInt = (vL1 1).toInt ∧ (sL1 0).toInt = (sL1 0).toInt from ⟨rfl, rfl, rfl⟩), (show (vL2 0).toInt = (vL2 0).toInt ∧ (vL2 1).toInt = (vL2 1).toInt ∧ (sL2 0).toInt = (sL2 0).toInt from ⟨rfl, rfl, rfl⟩), (show (vL3 0).toInt = (vL3 0).toInt ∧ (vL3 1).toInt = (vL3 1).toInt ∧ (sL3 0).toInt = (sL3 0).toInt from ⟨rfl, rfl, rfl⟩), by rw [ht]; exact hP⟩, hS.F ht⟩) hS.2.2 dX11_write_44
          · skip
            have bz42 := fb_rng p2
            have zz43 : ¬ p2.toInt < (0 : Int) := fun h9 => cz39 (zi_lt.mpr h9)
            refine lv_iload_n hx hb dX11_write_33 rfl (lv_at hl 3 rfl) ?_
            refine lv_aload hx hb dX11_write_34 (lv_at hl 0 rfl) ?_
            refine va_get (D := (dC, dI)) (ci := 6) (v := .int (sL1 0)) (C := RX6) (T := TX6) (N := 4) hx hb hts (fun w h => List.mem_cons_of_mem _ (List.mem_append_right _ (List.mem_append_right _ (List.mem_append_right _ (List.mem_append_left _ h))))) hown hK hP 2 rfl rfl 3 (by decide) (hts (.fieldLink RX11 387 "SagMemory$Slot" "length" "I") (wl_mem 5 rfl)) (fun _ h9 => h9) rfl dX11_write_36 ?_
            have bz44 := hsL1 0
            refine lv_icmp_lt (tgt := 45) hx hb dX11_write_39 (by decide) (fun cz45 => ?_) (fun cz45 => ?_)
            · skip
              have zz46 : p2.toInt < (sL1 0).toInt := zi_lt.mp cz45
              refine lv_aload hx hb dX11_write_45 (lv_at hl 0 rfl) ?_
              refine va_get (D := (dC, dI)) (ci := 6) (v := .ref (qL1 1)) (C := RX6) (T := TX6) (N := 4) hx hb hts (fun w h => List.mem_cons_of_mem _ (List.mem_append_right _ (List.mem_append_right _ (List.mem_append_right _ (List.mem_append_left _ h))))) hown hK hP 2 rfl rfl 0 (by decide) (hts (.fieldLink RX11 388 "SagMemory$Slot" "numbers" "[J") (wl_mem 6 rfl)) (fun _ h9 => h9) rfl dX11_write_47 ?_
              refine lv_iload_n hx hb dX11_write_50 rfl (lv_at hl 3 rfl) ?_
              refine lv_aload hx hb dX11_write_51 (lv_at hl 0 rfl) ?_
              refine lv_lload_n hx hb dX11_write_53 rfl (lv_at hl 4 rfl) ?_
              have hPc := hP.sub (ws' := (List.flatten [(wSlot qL1 k vL1 sL1 lL1)])) [2, 3] rfl
              refine vp_callSl (va_Run.run (va_runV (As := [.long p3]) (rest := [.int p2, .ref (qL1 1)]) ⟨hx, hb, hml, hown, hts⟩ (c_X6_cut l dC dI k qL1 vL1 sL1 lL1 p3 hsL1) (cwV 1 hts (gk_V (wl_mem 7 rfl) (wl_mem 8 rfl) (wl_mem 9 rfl) (wl_mem 10 rfl) (fun w h => List.mem_cons_of_mem _ (List.mem_append_right _ (List.mem_append_right _ (List.mem_append_right _ (List.mem_append_right _ (List.mem_append_left _ h)))))) wkg_c_X6_cut) rfl rfl rfl (by decide +kernel) ⟨Nat.le_of_ble_eq_true rfl, Nat.le_of_ble_eq_true rfl⟩) ⟨fun a U g mk q => by obtain ⟨q0, qP, qK⟩ := q; exact ⟨q0, qP, va_K.moved (u := U) (U := U.calling g mk a) (Vm.Alike.refl U.vm) qK⟩, va_recv hK hPc (ci := 6) (q0 := 0) rfl rfl, fun U hU hW => ⟨rfl, by rw [hU]; exact hPc, va_K.moved hW.alike hK⟩⟩ rfl rfl hl.1 rfl (lv_room (Nat.le_of_ble_eq_true rfl)) dX11_write_54 ⟨Nat.le_of_ble_eq_true rfl, Nat.le_of_ble_eq_true rfl⟩)) (fun rz48 gz47 => ?_)
              clear hPc
              refine va_last hx hb hK hP hD hS 3 1 rfl rfl (vp_in_iff.mpr ⟨by omega, by omega⟩) dX11_write_57 (fun H locs hP hD hS => ?_)
              obtain ⟨fz49, efz49, hP, hD⟩ : ∃ fz49 : Nat → Int64, fz49 = vp_updL (lL1 0) p2.toNatClampNeg rz48 ∧ va_P (dC, dI) vwCl (List.flatten [(wSlot qL0 k vL0 sL0 lL0), (wSlot qL1 k vL1 sL1 (va_up lL1 0 fz49)), (wSlot qL2 k vL2 sL2 lL2), (wSlot qL3 k vL3 sL3 lL3)] ++ List.flatten [(wSag qX k tapeX toldX actsX nowX trialX storyX attemptX orderSearchX routeSearchX setSearchX probeX (qL0 0) (qL1 0) (qL2 0) (qL3 0) image0X image1X image2X aX)]) H ∧ va_D A (List.flatten [(wSlot qL0 k vL0 sL0 lL0), (wSlot qL1 k vL1 sL1 (va_up lL1 0 fz49)), (wSlot qL2 k vL2 sL2 lL2), (wSlot qL3 k vL3 sL3 lL3)] ++ List.flatten [(wSag qX k tapeX toldX actsX nowX trialX storyX attemptX orderSearchX routeSearchX setSearchX probeX (qL0 0) (qL1 0) (qL2 0) (qL3 0) image0X image1X image2X aX)]) := ⟨_, rfl, hP, hD⟩
              have kfz49 : fz49 p2.toNatClampNeg = rz48 := by rw [efz49]; exact pk_uLs
              refine lv_iconst (v := 0) hx hb dX11_write_58 (by decide) ?_
              rw [hQ]
              exact W.iret (v := (0 : Int32)) hx hb hr (fun t ht hW => ⟨⟨(0 : Int32), (), rfl, trivial, vL0, sL0, lL0, vL1, sL1, (va_up lL1 0 fz49), vL2, sL2, lL2, vL3, sL3, lL3, hsL0, hsL1, hsL2, hsL3, (show (vL0 0).toInt = (vL0 0).toInt ∧ (vL0 1).toInt = (vL0 1).toInt ∧ (sL0 0).toInt = (sL0 0).toInt from ⟨rfl, rfl, rfl⟩), (show (vL1 0).toInt = (vL1 0).toInt ∧ (vL1 1).toInt = (vL1 1).toInt ∧ (sL1 0).toInt = (sL1 0).toInt from ⟨rfl, rfl, rfl⟩), (show (vL2 0).toInt = (vL2 0).toInt ∧ (vL2 1).toInt = (vL2 1).toInt ∧ (sL2 0).toInt = (sL2 0).toInt from ⟨rfl, rfl, rfl⟩), (show (vL3 0).toInt = (vL3 0).toInt ∧ (vL3 1).toInt = (vL3 1).toInt ∧ (sL3 0).toInt = (sL3 0).toInt from ⟨rfl, rfl, rfl⟩), by rw [ht]; exact hP⟩, hS.F ht⟩) hS.2.2 dX11_write_59
            · skip
              have zz50 : ¬ p2.toInt < (sL1 0).toInt := fun h9 => cz45 (zi_lt.mpr h9)
              refine lv_bipush (v := (-7)) hx hb dX11_write_42 (by decide) ?_
              rw [hQ]
              exact W.iret (v := (-7 : Int32)) hx hb hr (fun t ht hW => ⟨⟨(-7 : Int32), (), rfl, trivial, vL0, sL0, lL0, vL1, sL1, lL1, vL2, sL2, lL2, vL3, sL3, lL3, hsL0, hsL1, hsL2, hsL3, (show (vL0 0).toInt = (vL0 0).toInt ∧ (vL0 1).toInt = (vL0 1).toInt ∧ (sL0 0).toInt = (sL0 0).toInt from ⟨rfl, rfl, rfl⟩), (show (vL1 0).toInt = (vL1 0).toInt ∧ (vL1 1).toInt = (vL1 1).toInt ∧ (sL1 0).toInt = (sL1 0).toInt from ⟨rfl, rfl, rfl⟩), (show (vL2 0).toInt = (vL2 0).toInt ∧ (vL2 1).toInt = (vL2 1).toInt ∧ (sL2 0).toInt = (sL2 0).toInt from ⟨rfl, rfl, rfl⟩), (show (vL3 0).toInt = (vL3 0).toInt ∧ (vL3 1).toInt = (vL3 1).toInt ∧ (sL3 0).toInt = (sL3 0).toInt from ⟨rfl, rfl, rfl⟩), by rw [ht]; exact hP⟩, hS.F ht⟩) hS.2.2 dX11_write_44
        · skip
          have zz51 : (vL1 0).toInt = (0 : Int) := zi_eq.mp cz37
          refine lv_bipush (v := (-6)) hx hb dX11_write_26 (by decide) ?_
          rw [hQ]
          exact W.iret (v := (-6 : Int32)) hx hb hr (fun t ht hW => ⟨⟨(-6 : Int32), (), rfl, trivial, vL0, sL0, lL0, vL1, sL1, lL1, vL2, sL2, lL2, vL3, sL3, lL3, hsL0, hsL1, hsL2, hsL3, (show (vL0 0).toInt = (vL0 0).toInt ∧ (vL0 1).toInt = (vL0 1).toInt ∧ (sL0 0).toInt = (sL0 0).toInt from ⟨rfl, rfl, rfl⟩), (show (vL1 0).toInt = (vL1 0).toInt ∧ (vL1 1).toInt = (vL1 1).toInt ∧ (sL1 0).toInt = (sL1 0).toInt from ⟨rfl, rfl, rfl⟩), (show (vL2 0).toInt = (vL2 0).toInt ∧ (vL2 1).toInt = (vL2 1).toInt ∧ (sL2 0).toInt = (sL2 0).toInt from ⟨rfl, rfl, rfl⟩), (show (vL3 0).toInt = (vL3 0).toInt ∧ (vL3 1).toInt = (vL3 1).toInt ∧ (sL3 0).toInt = (sL3 0).toInt from ⟨rfl, rfl, rfl⟩), by rw [ht]; exact hP⟩, hS.F ht⟩) hS.2.2 dX11_write_28
      · skip
        have zz52 : p1.toInt = (2 : Int) := zi_eq.mp cz19
        refine W.eq (g2 := F0 m 15 ls [.int 2, .ref (qX 3)]) (by rw [cz19]) ?_
        refine va_aldq hx hb hK hP 11 6 rfl rfl (by unfold vp_in; decide) dX11_write_15 ?_
        refine W.eq (g2 := F0 m 16 ls [.ref (qL2 0)]) rfl ?_
        refine lv_astore (lv' := [(5, .ref (qL2 0)), (0, .ref (qX 0)), (1, .int p1), (2, .int p2), (3, .long p3)]) hx hb dX11_write_16 hl (by decide) rfl (fun ls hl => ?_)
        refine lv_aload hx hb dX11_write_18 (lv_at hl 0 rfl) ?_
        refine va_get (D := (dC, dI)) (ci := 6) (v := .int (vL2 0)) (C := RX6) (T := TX6) (N := 4) hx hb hts (fun w h => List.mem_cons_of_mem _ (List.mem_append_right _ (List.mem_append_right _ (List.mem_append_right _ (List.mem_append_left _ h))))) hown hK hP 4 rfl rfl 1 (by decide) (hts (.fieldLink RX11 386 "SagMemory$Slot" "has" "Z") (wl_mem 4 rfl)) (fun _ h9 => h9) rfl dX11_write_20 ?_
        refine lv_if_ne (tgt := 29) hx hb dX11_write_23 (by decide) (fun cz53 => ?_) (fun cz53 => ?_)
        · skip
          have zz54 : ¬ (vL2 0).toInt = (0 : Int) := fun h9 => cz53 (zi_eq.mpr h9)
          refine lv_iload_n hx hb dX11_write_29 rfl (lv_at hl 3 rfl) ?_
          refine lv_if_lt (tgt := 42) hx hb dX11_write_30 (by decide) (fun cz55 => ?_) (fun cz55 => ?_)
          · skip
            have bz56 := fb_rng p2
            have zz57 : p2.toInt < (0 : Int) := zi_lt.mp cz55
            refine lv_bipush (v := (-7)) hx hb dX11_write_42 (by decide) ?_
            rw [hQ]
            exact W.iret (v := (-7 : Int32)) hx hb hr (fun t ht hW => ⟨⟨(-7 : Int32), (), rfl, trivial, vL0, sL0, lL0, vL1, sL1, lL1, vL2, sL2, lL2, vL3, sL3, lL3, hsL0, hsL1, hsL2, hsL3, (show (vL0 0).toInt = (vL0 0).toInt ∧ (vL0 1).toInt = (vL0 1).toInt ∧ (sL0 0).toInt = (sL0 0).toInt from ⟨rfl, rfl, rfl⟩), (show (vL1 0).toInt = (vL1 0).toInt ∧ (vL1 1).toInt = (vL1 1).toInt ∧ (sL1 0).toInt = (sL1 0).toInt from ⟨rfl, rfl, rfl⟩), (show (vL2 0).toInt = (vL2 0).toInt ∧ (vL2 1).toInt = (vL2 1).toInt ∧ (sL2 0).toInt = (sL2 0).toInt from ⟨rfl, rfl, rfl⟩), (show (vL3 0).toInt = (vL3 0).toInt ∧ (vL3 1).toInt = (vL3 1).toInt ∧ (sL3 0).toInt = (sL3 0).toInt from ⟨rfl, rfl, rfl⟩), by rw [ht]; exact hP⟩, hS.F ht⟩) hS.2.2 dX11_write_44
          · skip
            have bz58 := fb_rng p2
            have zz59 : ¬ p2.toInt < (0 : Int) := fun h9 => cz55 (zi_lt.mpr h9)
            refine lv_iload_n hx hb dX11_write_33 rfl (lv_at hl 3 rfl) ?_
            refine lv_aload hx hb dX11_write_34 (lv_at hl 0 rfl) ?_
            refine va_get (D := (dC, dI)) (ci := 6) (v := .int (sL2 0)) (C := RX6) (T := TX6) (N := 4) hx hb hts (fun w h => List.mem_cons_of_mem _ (List.mem_append_right _ (List.mem_append_right _ (List.mem_append_right _ (List.mem_append_left _ h))))) hown hK hP 4 rfl rfl 3 (by decide) (hts (.fieldLink RX11 387 "SagMemory$Slot" "length" "I") (wl_mem 5 rfl)) (fun _ h9 => h9) rfl dX11_write_36 ?_
            have bz60 := hsL2 0
            refine lv_icmp_lt (tgt := 45) hx hb dX11_write_39 (by decide) (fun cz61 => ?_) (fun cz61 => ?_)
            · skip
              have zz62 : p2.toInt < (sL2 0).toInt := zi_lt.mp cz61
              refine lv_aload hx hb dX11_write_45 (lv_at hl 0 rfl) ?_
              refine va_get (D := (dC, dI)) (ci := 6) (v := .ref (qL2 1)) (C := RX6) (T := TX6) (N := 4) hx hb hts (fun w h => List.mem_cons_of_mem _ (List.mem_append_right _ (List.mem_append_right _ (List.mem_append_right _ (List.mem_append_left _ h))))) hown hK hP 4 rfl rfl 0 (by decide) (hts (.fieldLink RX11 388 "SagMemory$Slot" "numbers" "[J") (wl_mem 6 rfl)) (fun _ h9 => h9) rfl dX11_write_47 ?_
              refine lv_iload_n hx hb dX11_write_50 rfl (lv_at hl 3 rfl) ?_
              refine lv_aload hx hb dX11_write_51 (lv_at hl 0 rfl) ?_
              refine lv_lload_n hx hb dX11_write_53 rfl (lv_at hl 4 rfl) ?_
              have hPc := hP.sub (ws' := (List.flatten [(wSlot qL2 k vL2 sL2 lL2)])) [4, 5] rfl
              refine vp_callSl (va_Run.run (va_runV (As := [.long p3]) (rest := [.int p2, .ref (qL2 1)]) ⟨hx, hb, hml, hown, hts⟩ (c_X6_cut l dC dI k qL2 vL2 sL2 lL2 p3 hsL2) (cwV 1 hts (gk_V (wl_mem 7 rfl) (wl_mem 8 rfl) (wl_mem 9 rfl) (wl_mem 10 rfl) (fun w h => List.mem_cons_of_mem _ (List.mem_append_right _ (List.mem_append_right _ (List.mem_append_right _ (List.mem_append_right _ (List.mem_append_left _ h)))))) wkg_c_X6_cut) rfl rfl rfl (by decide +kernel) ⟨Nat.le_of_ble_eq_true rfl, Nat.le_of_ble_eq_true rfl⟩) ⟨fun a U g mk q => by obtain ⟨q0, qP, qK⟩ := q; exact ⟨q0, qP, va_K.moved (u := U) (U := U.calling g mk a) (Vm.Alike.refl U.vm) qK⟩, va_recv hK hPc (ci := 6) (q0 := 0) rfl rfl, fun U hU hW => ⟨rfl, by rw [hU]; exact hPc, va_K.moved hW.alike hK⟩⟩ rfl rfl hl.1 rfl (lv_room (Nat.le_of_ble_eq_true rfl)) dX11_write_54 ⟨Nat.le_of_ble_eq_true rfl, Nat.le_of_ble_eq_true rfl⟩)) (fun rz64 gz63 => ?_)
              clear hPc
              refine va_last hx hb hK hP hD hS 5 1 rfl rfl (vp_in_iff.mpr ⟨by omega, by omega⟩) dX11_write_57 (fun H locs hP hD hS => ?_)
              obtain ⟨fz65, efz65, hP, hD⟩ : ∃ fz65 : Nat → Int64, fz65 = vp_updL (lL2 0) p2.toNatClampNeg rz64 ∧ va_P (dC, dI) vwCl (List.flatten [(wSlot qL0 k vL0 sL0 lL0), (wSlot qL1 k vL1 sL1 lL1), (wSlot qL2 k vL2 sL2 (va_up lL2 0 fz65)), (wSlot qL3 k vL3 sL3 lL3)] ++ List.flatten [(wSag qX k tapeX toldX actsX nowX trialX storyX attemptX orderSearchX routeSearchX setSearchX probeX (qL0 0) (qL1 0) (qL2 0) (qL3 0) image0X image1X image2X aX)]) H ∧ va_D A (List.flatten [(wSlot qL0 k vL0 sL0 lL0), (wSlot qL1 k vL1 sL1 lL1), (wSlot qL2 k vL2 sL2 (va_up lL2 0 fz65)), (wSlot qL3 k vL3 sL3 lL3)] ++ List.flatten [(wSag qX k tapeX toldX actsX nowX trialX storyX attemptX orderSearchX routeSearchX setSearchX probeX (qL0 0) (qL1 0) (qL2 0) (qL3 0) image0X image1X image2X aX)]) := ⟨_, rfl, hP, hD⟩
              have kfz65 : fz65 p2.toNatClampNeg = rz64 := by rw [efz65]; exact pk_uLs
              refine lv_iconst (v := 0) hx hb dX11_write_58 (by decide) ?_
              rw [hQ]
              exact W.iret (v := (0 : Int32)) hx hb hr (fun t ht hW => ⟨⟨(0 : Int32), (), rfl, trivial, vL0, sL0, lL0, vL1, sL1, lL1, vL2, sL2, (va_up lL2 0 fz65), vL3, sL3, lL3, hsL0, hsL1, hsL2, hsL3, (show (vL0 0).toInt = (vL0 0).toInt ∧ (vL0 1).toInt = (vL0 1).toInt ∧ (sL0 0).toInt = (sL0 0).toInt from ⟨rfl, rfl, rfl⟩), (show (vL1 0).toInt = (vL1 0).toInt ∧ (vL1 1).toInt = (vL1 1).toInt ∧ (sL1 0).toInt = (sL1 0).toInt from ⟨rfl, rfl, rfl⟩), (show (vL2 0).toInt = (vL2 0).toInt ∧ (vL2 1).toInt = (vL2 1).toInt ∧ (sL2 0).toInt = (sL2 0).toInt from ⟨rfl, rfl, rfl⟩), (show (vL3 0).toInt = (vL3 0).toInt ∧ (vL3 1).toInt = (vL3 1).toInt ∧ (sL3 0).toInt = (sL3 0).toInt from ⟨rfl, rfl, rfl⟩), by rw [ht]; exact hP⟩, hS.F ht⟩) hS.2.2 dX11_write_59
            · skip
              have zz66 : ¬ p2.toInt < (sL2 0).toInt := fun h9 => cz61 (zi_lt.mpr h9)
              refine lv_bipush (v := (-7)) hx hb dX11_write_42 (by decide) ?_
              rw [hQ]
              exact W.iret (v := (-7 : Int32)) hx hb hr (fun t ht hW => ⟨⟨(-7 : Int32), (), rfl, trivial, vL0, sL0, lL0, vL1, sL1, lL1, vL2, sL2, lL2, vL3, sL3, lL3, hsL0, hsL1, hsL2, hsL3, (show (vL0 0).toInt = (vL0 0).toInt ∧ (vL0 1).toInt = (vL0 1).toInt ∧ (sL0 0).toInt = (sL0 0).toInt from ⟨rfl, rfl, rfl⟩), (show (vL1 0).toInt = (vL1 0).toInt ∧ (vL1 1).toInt = (vL1 1).toInt ∧ (sL1 0).toInt = (sL1 0).toInt from ⟨rfl, rfl, rfl⟩), (show (vL2 0).toInt = (vL2 0).toInt ∧ (vL2 1).toInt = (vL2 1).toInt ∧ (sL2 0).toInt = (sL2 0).toInt from ⟨rfl, rfl, rfl⟩), (show (vL3 0).toInt = (vL3 0).toInt ∧ (vL3 1).toInt = (vL3 1).toInt ∧ (sL3 0).toInt = (sL3 0).toInt from ⟨rfl, rfl, rfl⟩), by rw [ht]; exact hP⟩, hS.F ht⟩) hS.2.2 dX11_write_44
        · skip
          have zz67 : (vL2 0).toInt = (0 : Int) := zi_eq.mp cz53
          refine lv_bipush (v := (-6)) hx hb dX11_write_26 (by decide) ?_
          rw [hQ]
          exact W.iret (v := (-6 : Int32)) hx hb hr (fun t ht hW => ⟨⟨(-6 : Int32), (), rfl, trivial, vL0, sL0, lL0, vL1, sL1, lL1, vL2, sL2, lL2, vL3, sL3, lL3, hsL0, hsL1, hsL2, hsL3, (show (vL0 0).toInt = (vL0 0).toInt ∧ (vL0 1).toInt = (vL0 1).toInt ∧ (sL0 0).toInt = (sL0 0).toInt from ⟨rfl, rfl, rfl⟩), (show (vL1 0).toInt = (vL1 0).toInt ∧ (vL1 1).toInt = (vL1 1).toInt ∧ (sL1 0).toInt = (sL1 0).toInt from ⟨rfl, rfl, rfl⟩), (show (vL2 0).toInt = (vL2 0).toInt ∧ (vL2 1).toInt = (vL2 1).toInt ∧ (sL2 0).toInt = (sL2 0).toInt from ⟨rfl, rfl, rfl⟩), (show (vL3 0).toInt = (vL3 0).toInt ∧ (vL3 1).toInt = (vL3 1).toInt ∧ (sL3 0).toInt = (sL3 0).toInt from ⟨rfl, rfl, rfl⟩), by rw [ht]; exact hP⟩, hS.F ht⟩) hS.2.2 dX11_write_28
      · skip
        have zz68 : p1.toInt = (3 : Int) := zi_eq.mp cz19
        refine W.eq (g2 := F0 m 15 ls [.int 3, .ref (qX 3)]) (by rw [cz19]) ?_
        refine va_aldq hx hb hK hP 11 6 rfl rfl (by unfold vp_in; decide) dX11_write_15 ?_
        refine W.eq (g2 := F0 m 16 ls [.ref (qL3 0)]) rfl ?_
        refine lv_astore (lv' := [(5, .ref (qL3 0)), (0, .ref (qX 0)), (1, .int p1), (2, .int p2), (3, .long p3)]) hx hb dX11_write_16 hl (by decide) rfl (fun ls hl => ?_)
        refine lv_aload hx hb dX11_write_18 (lv_at hl 0 rfl) ?_
        refine va_get (D := (dC, dI)) (ci := 6) (v := .int (vL3 0)) (C := RX6) (T := TX6) (N := 4) hx hb hts (fun w h => List.mem_cons_of_mem _ (List.mem_append_right _ (List.mem_append_right _ (List.mem_append_right _ (List.mem_append_left _ h))))) hown hK hP 6 rfl rfl 1 (by decide) (hts (.fieldLink RX11 386 "SagMemory$Slot" "has" "Z") (wl_mem 4 rfl)) (fun _ h9 => h9) rfl dX11_write_20 ?_
        refine lv_if_ne (tgt := 29) hx hb dX11_write_23 (by decide) (fun cz69 => ?_) (fun cz69 => ?_)
        · skip
          have zz70 : ¬ (vL3 0).toInt = (0 : Int) := fun h9 => cz69 (zi_eq.mpr h9)
          refine lv_iload_n hx hb dX11_write_29 rfl (lv_at hl 3 rfl) ?_
          refine lv_if_lt (tgt := 42) hx hb dX11_write_30 (by decide) (fun cz71 => ?_) (fun cz71 => ?_)
          · skip
            have bz72 := fb_rng p2
            have zz73 : p2.toInt < (0 : Int) := zi_lt.mp cz71
            refine lv_bipush (v := (-7)) hx hb dX11_write_42 (by decide) ?_
            rw [hQ]
            exact W.iret (v := (-7 : Int32)) hx hb hr (fun t ht hW => ⟨⟨(-7 : Int32), (), rfl, trivial, vL0, sL0, lL0, vL1, sL1, lL1, vL2, sL2, lL2, vL3, sL3, lL3, hsL0, hsL1, hsL2, hsL3, (show (vL0 0).toInt = (vL0 0).toInt ∧ (vL0 1).toInt = (vL0 1).toInt ∧ (sL0 0).toInt = (sL0 0).toInt from ⟨rfl, rfl, rfl⟩), (show (vL1 0).toInt = (vL1 0).toInt ∧ (vL1 1).toInt = (vL1 1).toInt ∧ (sL1 0).toInt = (sL1 0).toInt from ⟨rfl, rfl, rfl⟩), (show (vL2 0).toInt = (vL2 0).toInt ∧ (vL2 1).toInt = (vL2 1).toInt ∧ (sL2 0).toInt = (sL2 0).toInt from ⟨rfl, rfl, rfl⟩), (show (vL3 0).toInt = (vL3 0).toInt ∧ (vL3 1).toInt = (vL3 1).toInt ∧ (sL3 0).toInt = (sL3 0).toInt from ⟨rfl, rfl, rfl⟩), by rw [ht]; exact hP⟩, hS.F ht⟩) hS.2.2 dX11_write_44
          · skip
            have bz74 := fb_rng p2
            have zz75 : ¬ p2.toInt < (0 : Int) := fun h9 => cz71 (zi_lt.mpr h9)
            refine lv_iload_n hx hb dX11_write_33 rfl (lv_at hl 3 rfl) ?_
            refine lv_aload hx hb dX11_write_34 (lv_at hl 0 rfl) ?_
            refine va_get (D := (dC, dI)) (ci := 6) (v := .int (sL3 0)) (C := RX6) (T := TX6) (N := 4) hx hb hts (fun w h => List.mem_cons_of_mem _ (List.mem_append_right _ (List.mem_append_right _ (List.mem_append_right _ (List.mem_append_left _ h))))) hown hK hP 6 rfl rfl 3 (by decide) (hts (.fieldLink RX11 387 "SagMemory$Slot" "length" "I") (wl_mem 5 rfl)) (fun _ h9 => h9) rfl dX11_write_36 ?_
            have bz76 := hsL3 0
            refine lv_icmp_lt (tgt := 45) hx hb dX11_write_39 (by decide) (fun cz77 => ?_) (fun cz77 => ?_)
            · skip
              have zz78 : p2.toInt < (sL3 0).toInt := zi_lt.mp cz77
              refine lv_aload hx hb dX11_write_45 (lv_at hl 0 rfl) ?_
              refine va_get (D := (dC, dI)) (ci := 6) (v := .ref (qL3 1)) (C := RX6) (T := TX6) (N := 4) hx hb hts (fun w h => List.mem_cons_of_mem _ (List.mem_append_right _ (List.mem_append_right _ (List.mem_append_right _ (List.mem_append_left _ h))))) hown hK hP 6 rfl rfl 0 (by decide) (hts (.fieldLink RX11 388 "SagMemory$Slot" "numbers" "[J") (wl_mem 6 rfl)) (fun _ h9 => h9) rfl dX11_write_47 ?_
              refine lv_iload_n hx hb dX11_write_50 rfl (lv_at hl 3 rfl) ?_
              refine lv_aload hx hb dX11_write_51 (lv_at hl 0 rfl) ?_
              refine lv_lload_n hx hb dX11_write_53 rfl (lv_at hl 4 rfl) ?_
              have hPc := hP.sub (ws' := (List.flatten [(wSlot qL3 k vL3 sL3 lL3)])) [6, 7] rfl
              refine vp_callSl (va_Run.run (va_runV (As := [.long p3]) (rest := [.int p2, .ref (qL3 1)]) ⟨hx, hb, hml, hown, hts⟩ (c_X6_cut l dC dI k qL3 vL3 sL3 lL3 p3 hsL3) (cwV 1 hts (gk_V (wl_mem 7 rfl) (wl_mem 8 rfl) (wl_mem 9 rfl) (wl_mem 10 rfl) (fun w h => List.mem_cons_of_mem _ (List.mem_append_right _ (List.mem_append_right _ (List.mem_append_right _ (List.mem_append_right _ (List.mem_append_left _ h)))))) wkg_c_X6_cut) rfl rfl rfl (by decide +kernel) ⟨Nat.le_of_ble_eq_true rfl, Nat.le_of_ble_eq_true rfl⟩) ⟨fun a U g mk q => by obtain ⟨q0, qP, qK⟩ := q; exact ⟨q0, qP, va_K.moved (u := U) (U := U.calling g mk a) (Vm.Alike.refl U.vm) qK⟩, va_recv hK hPc (ci := 6) (q0 := 0) rfl rfl, fun U hU hW => ⟨rfl, by rw [hU]; exact hPc, va_K.moved hW.alike hK⟩⟩ rfl rfl hl.1 rfl (lv_room (Nat.le_of_ble_eq_true rfl)) dX11_write_54 ⟨Nat.le_of_ble_eq_true rfl, Nat.le_of_ble_eq_true rfl⟩)) (fun rz80 gz79 => ?_)
              clear hPc
              refine va_last hx hb hK hP hD hS 7 1 rfl rfl (vp_in_iff.mpr ⟨by omega, by omega⟩) dX11_write_57 (fun H locs hP hD hS => ?_)
              obtain ⟨fz81, efz81, hP, hD⟩ : ∃ fz81 : Nat → Int64, fz81 = vp_updL (lL3 0) p2.toNatClampNeg rz80 ∧ va_P (dC, dI) vwCl (List.flatten [(wSlot qL0 k vL0 sL0 lL0), (wSlot qL1 k vL1 sL1 lL1), (wSlot qL2 k vL2 sL2 lL2), (wSlot qL3 k vL3 sL3 (va_up lL3 0 fz81))] ++ List.flatten [(wSag qX k tapeX toldX actsX nowX trialX storyX attemptX orderSearchX routeSearchX setSearchX probeX (qL0 0) (qL1 0) (qL2 0) (qL3 0) image0X image1X image2X aX)]) H ∧ va_D A (List.flatten [(wSlot qL0 k vL0 sL0 lL0), (wSlot qL1 k vL1 sL1 lL1), (wSlot qL2 k vL2 sL2 lL2), (wSlot qL3 k vL3 sL3 (va_up lL3 0 fz81))] ++ List.flatten [(wSag qX k tapeX toldX actsX nowX trialX storyX attemptX orderSearchX routeSearchX setSearchX probeX (qL0 0) (qL1 0) (qL2 0) (qL3 0) image0X image1X image2X aX)]) := ⟨_, rfl, hP, hD⟩
              have kfz81 : fz81 p2.toNatClampNeg = rz80 := by rw [efz81]; exact pk_uLs
              refine lv_iconst (v := 0) hx hb dX11_write_58 (by decide) ?_
              rw [hQ]
              exact W.iret (v := (0 : Int32)) hx hb hr (fun t ht hW => ⟨⟨(0 : Int32), (), rfl, trivial, vL0, sL0, lL0, vL1, sL1, lL1, vL2, sL2, lL2, vL3, sL3, (va_up lL3 0 fz81), hsL0, hsL1, hsL2, hsL3, (show (vL0 0).toInt = (vL0 0).toInt ∧ (vL0 1).toInt = (vL0 1).toInt ∧ (sL0 0).toInt = (sL0 0).toInt from ⟨rfl, rfl, rfl⟩), (show (vL1 0).toInt = (vL1 0).toInt ∧ (vL1 1).toInt = (vL1 1).toInt ∧ (sL1 0).toInt = (sL1 0).toInt from ⟨rfl, rfl, rfl⟩), (show (vL2 0).toInt = (vL2 0).toInt ∧ (vL2 1).toInt = (vL2 1).toInt ∧ (sL2 0).toInt = (sL2 0).toInt from ⟨rfl, rfl, rfl⟩), (show (vL3 0).toInt = (vL3 0).toInt ∧ (vL3 1).toInt = (vL3 1).toInt ∧ (sL3 0).toInt = (sL3 0).toInt from ⟨rfl, rfl, rfl⟩), by rw [ht]; exact hP⟩, hS.F ht⟩) hS.2.2 dX11_write_59
            · skip
              have zz82 : ¬ p2.toInt < (sL3 0).toInt := fun h9 => cz77 (zi_lt.mpr h9)
              refine lv_bipush (v := (-7)) hx hb dX11_write_42 (by decide) ?_
              rw [hQ]
              exact W.iret (v := (-7 : Int32)) hx hb hr (fun t ht hW => ⟨⟨(-7 : Int32), (), rfl, trivial, vL0, sL0, lL0, vL1, sL1, lL1, vL2, sL2, lL2, vL3, sL3, lL3, hsL0, hsL1, hsL2, hsL3, (show (vL0 0).toInt = (vL0 0).toInt ∧ (vL0 1).toInt = (vL0 1).toInt ∧ (sL0 0).toInt = (sL0 0).toInt from ⟨rfl, rfl, rfl⟩), (show (vL1 0).toInt = (vL1 0).toInt ∧ (vL1 1).toInt = (vL1 1).toInt ∧ (sL1 0).toInt = (sL1 0).toInt from ⟨rfl, rfl, rfl⟩), (show (vL2 0).toInt = (vL2 0).toInt ∧ (vL2 1).toInt = (vL2 1).toInt ∧ (sL2 0).toInt = (sL2 0).toInt from ⟨rfl, rfl, rfl⟩), (show (vL3 0).toInt = (vL3 0).toInt ∧ (vL3 1).toInt = (vL3 1).toInt ∧ (sL3 0).toInt = (sL3 0).toInt from ⟨rfl, rfl, rfl⟩), by rw [ht]; exact hP⟩, hS.F ht⟩) hS.2.2 dX11_write_44
        · skip
          have zz83 : (vL3 0).toInt = (0 : Int) := zi_eq.mp cz69
          refine lv_bipush (v := (-6)) hx hb dX11_write_26 (by decide) ?_
          rw [hQ]
          exact W.iret (v := (-6 : Int32)) hx hb hr (fun t ht hW => ⟨⟨(-6 : Int32), (), rfl, trivial, vL0, sL0, lL0, vL1, sL1, lL1, vL2, sL2, lL2, vL3, sL3, lL3, hsL0, hsL1, hsL2, hsL3, (show (vL0 0).toInt = (vL0 0).toInt ∧ (vL0 1).toInt = (vL0 1).toInt ∧ (sL0 0).toInt = (sL0 0).toInt from ⟨rfl, rfl, rfl⟩), (show (vL1 0).toInt = (vL1 0).toInt ∧ (vL1 1).toInt = (vL1 1).toInt ∧ (sL1 0).toInt = (sL1 0).toInt from ⟨rfl, rfl, rfl⟩), (show (vL2 0).toInt = (vL2 0).toInt ∧ (vL2 1).toInt = (vL2 1).toInt ∧ (sL2 0).toInt = (sL2 0).toInt from ⟨rfl, rfl, rfl⟩), (show (vL3 0).toInt = (vL3 0).toInt ∧ (vL3 1).toInt = (vL3 1).toInt ∧ (sL3 0).toInt = (sL3 0).toInt from ⟨rfl, rfl, rfl⟩), by rw [ht]; exact hP⟩, hS.F ht⟩) hS.2.2 dX11_write_28
    · skip
      exact absurd cz18 (by decide)
def wk_c_X6_spans_x : List Cond := .code yX6_spans cX6_spans 3 (some .boolean) :: ([.fieldLink RX6 23 "SagMemory$Slot" "length" "I"] ++ (wsX60 ++ []))
theorem wkg_c_X6_spans_x : wk_c_X6_spans_x.all goodWord = true := by decide +kernel
