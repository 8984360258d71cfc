def wk_c_X11_factorial : List Cond := .code yX11_factorial cX11_factorial 4 (some .long) :: ([] ++ ([]))
theorem wkg_c_X11_factorial : wk_c_X11_factorial.all goodWord = true := by decide +kernel
set_option maxHeartbeats 4000000 in
set_option maxRecDepth 100000 in
theorem c_X11_factorial (l : Launch) (dC : Nat → ClassId) (dI : Nat → Nat → Nat) (k : Nat → ClassId) (p1 : Int32) (hp0 : (-1000) ≤ p1.toInt ∧ p1.toInt ≤ 1000) : Met l yX11_factorial wk_c_X11_factorial ({ frames := 0, cells := 0, slots := 0, locals := 0 }) (va_Pc [.int p1] (fun U => va_P (dC, dI) vwCl (List.flatten ([] : List va_W)) U.heap ∧ va_K (dC, dI) vwCl (tK k) U)) (vp_Sl (fun r : Int64 => True)) 0 0 (fun _ => False) := by
  refine Met.ofW (cc := cX11_factorial) (maxL := 4) (ret := (some .long)) (by decide) rfl ?_
  intro p e s m args below meth c s₁ B hml hv
  obtain ⟨rfl, hP, hK⟩ := hv
  have hx := B.exec
  have hb := B.bytes
  have hr := B.returns
  have hts := atoms_spec (ws := wk_c_X11_factorial) B.pre
  have hown : s.vm.findClass RX11 = some m.cls := findClass_of_methodNamed B.named
  have hlocks := B.notSynchronized
  have hP : va_P (dC, dI) vwCl (List.flatten ([] : List va_W)) s.heap := hP
  have hl := lv_entry ([.int p1]) (n := 4) (Nat.le_of_ble_eq_true rfl)
  rw [lg_entry_eq]
  generalize (lg_sl ([.int p1]) ++ List.replicate (4 - (lg_sl ([.int p1])).length) Slot.unset).toArray = ls at hl ⊢
  have hl : lv_has ls 4 [(0, .int p1)] := hl
  refine w_gen (fun Q hQ => ?_)
  refine lv_lconst (v := 1) hx hb dX11_factorial_0 (by decide) ?_
  refine lv_lstore_n (lv' := [(1, .long 1), (0, .int p1)]) hx hb dX11_factorial_1 rfl hl (by decide) rfl (fun ls hl => ?_)
  refine lv_iconst (v := 2) hx hb dX11_factorial_2 (by decide) ?_
  refine lv_istore_n (lv' := [(3, .int 2), (1, .long 1), (0, .int p1)]) hx hb dX11_factorial_3 rfl hl (by decide) rfl (fun ls hl => ?_)
  have lp4_kz12 : ∀ (n9_4 : Nat) (ls : Array Slot) (xz10 : Int64) (xz11 : Int32), (2147483647 - xz11.toInt).toNat < n9_4 → 2 ≤ xz11.toInt → lv_has ls 4 [(0, .int p1), (1, .long xz10), (3, .int xz11)] → W p l e (headSpec wk_c_X11_factorial ({ frames := 0, cells := 0, slots := 0, locals := 0 })).room s m ([.int p1] : List Value).toArray below meth c s.heap [] 0 0 Q (F0 m 4 ls []) := by
    intro n9_4
    induction n9_4 with
    | zero => intro ls xz10 xz11 hm; exact absurd hm (Nat.not_lt_zero _)
    | succ n9_4 ih4 =>
      intro ls xz10 xz11 hm4 jz13 hl
      refine lv_iload_n hx hb dX11_factorial_4 rfl (lv_at hl 2 rfl) ?_
      refine lv_iload_n hx hb dX11_factorial_5 rfl (lv_at hl 0 rfl) ?_
      refine lv_icmp_gt (tgt := 20) hx hb dX11_factorial_6 (by decide) (fun cz14 => ?_) (fun cz14 => ?_)
      · skip
        have bz15 := fb_rng xz11
        have zz16 : p1.toInt < xz11.toInt := zi_lt.mp cz14
        refine lv_lload_n hx hb dX11_factorial_20 rfl (lv_at hl 1 rfl) ?_
        rw [hQ]
        exact W.lret (v := xz10) hx hb hr (fun t ht hW => ⟨xz10, rfl, trivial, ht⟩) (fun _ h => absurd h List.not_mem_nil) dX11_factorial_21
      · skip
        have bz17 := fb_rng xz11
        have zz18 : ¬ p1.toInt < xz11.toInt := fun h9 => cz14 (zi_lt.mpr h9)
        refine lv_lload_n hx hb dX11_factorial_9 rfl (lv_at hl 1 rfl) ?_
        refine lv_iload_n hx hb dX11_factorial_10 rfl (lv_at hl 2 rfl) ?_
        refine lv_i2l hx hb dX11_factorial_11 rfl ?_
        refine lv_lmul hx hb dX11_factorial_12 ?_
        refine lv_topl (fun xz19 exz19 => ?_)
        refine lv_lstore_n (lv' := [(1, .long xz19), (0, .int p1), (3, .int xz11)]) hx hb dX11_factorial_13 rfl hl (by decide) rfl (fun ls hl => ?_)
        obtain ⟨xz20, exz20⟩ : ∃ y : Int32, y = xz11 + Int32.ofInt (1) := ⟨_, rfl⟩
        have fxz20 : xz20.toInt = xz11.toInt + (1) := by rw [exz20]; exact fb_addI (y := Int32.ofInt (1)) (by show -2147483648 ≤ xz11.toInt + (1); omega) (by show xz11.toInt + (1) < 2147483648; omega)
        refine lv_iinc (v := xz20) (lv' := [(3, .int xz20), (1, .long xz19), (0, .int p1)]) hx hb dX11_factorial_14 hl (k := 2) rfl exz20.symm (by decide) rfl (fun ls hl => ?_)
        refine lv_goto (tgt := 4) hx hb dX11_factorial_17 (by decide) ?_
        exact ih4 ls xz19 xz20 (by show (2147483647 - xz20.toInt).toNat < n9_4; omega) (by show 2 ≤ xz20.toInt; omega) (lv_sub hl [2, 1, 0] rfl)
  exact lp4_kz12 _ ls (1 : Int64) (2 : Int32) (Nat.lt_succ_self _) (by show 2 ≤ (2 : Int); omega) (lv_sub hl [2, 1, 0] rfl)
def wk_c_X11_power : List Cond := .code yX11_power cX11_power 5 (some .long) :: ([] ++ ([]))
theorem wkg_c_X11_power : wk_c_X11_power.all goodWord = true := by decide +kernel
set_option maxHeartbeats 4000000 in
set_option maxRecDepth 100000 in
theorem c_X11_power (l : Launch) (dC : Nat → ClassId) (dI : Nat → Nat → Nat) (k : Nat → ClassId) (p1 : Int32) (p2 : Int32) : Met l yX11_power wk_c_X11_power ({ frames := 0, cells := 0, slots := 0, locals := 0 }) (va_Pc [.int p1, .int p2] (fun U => va_P (dC, dI) vwCl (List.flatten ([] : List va_W)) U.heap ∧ va_K (dC, dI) vwCl (tK k) U)) (vp_Sl (fun r : Int64 => True)) 0 0 (fun _ => False) := by
  refine Met.ofW (cc := cX11_power) (maxL := 5) (ret := (some .long)) (by decide) rfl ?_
  intro p e s m args below meth c s₁ B hml hv
  obtain ⟨rfl, hP, hK⟩ := hv
  have hx := B.exec
  have hb := B.bytes
  have hr := B.returns
  have hts := atoms_spec (ws := wk_c_X11_power) B.pre
  have hown : s.vm.findClass RX11 = some m.cls := findClass_of_methodNamed B.named
  have hlocks := B.notSynchronized
  have hP : va_P (dC, dI) vwCl (List.flatten ([] : List va_W)) s.heap := hP
  have hl := lv_entry ([.int p1, .int p2]) (n := 5) (Nat.le_of_ble_eq_true rfl)
  rw [lg_entry_eq]
  generalize (lg_sl ([.int p1, .int p2]) ++ List.replicate (5 - (lg_sl ([.int p1, .int p2])).length) Slot.unset).toArray = ls at hl ⊢
  have hl : lv_has ls 5 [(0, .int p1), (1, .int p2)] := hl
  refine w_gen (fun Q hQ => ?_)
  refine lv_lconst (v := 1) hx hb dX11_power_0 (by decide) ?_
  refine lv_lstore_n (lv' := [(2, .long 1), (0, .int p1), (1, .int p2)]) hx hb dX11_power_1 rfl hl (by decide) rfl (fun ls hl => ?_)
  refine lv_iconst (v := 0) hx hb dX11_power_2 (by decide) ?_
  refine lv_istore (lv' := [(4, .int 0), (2, .long 1), (0, .int p1), (1, .int p2)]) hx hb dX11_power_3 hl (by decide) rfl (fun ls hl => ?_)
  have lp5_kz14 : ∀ (n9_5 : Nat) (ls : Array Slot) (xz12 : Int64) (xz13 : Int32), (2147483647 - xz13.toInt).toNat < n9_5 → 0 ≤ xz13.toInt → lv_has ls 5 [(0, .int p1), (1, .int p2), (2, .long xz12), (4, .int xz13)] → W p l e (headSpec wk_c_X11_power ({ frames := 0, cells := 0, slots := 0, locals := 0 })).room s m ([.int p1, .int p2] : List Value).toArray below meth c s.heap [] 0 0 Q (F0 m 5 ls []) := by
    intro n9_5
    induction n9_5 with
    | zero => intro ls xz12 xz13 hm; exact absurd hm (Nat.not_lt_zero _)
    | succ n9_5 ih5 =>
      intro ls xz12 xz13 hm5 jz15 hl
      refine lv_iload hx hb dX11_power_5 (lv_at hl 3 rfl) ?_
      refine lv_iload_n hx hb dX11_power_7 rfl (lv_at hl 1 rfl) ?_
      refine lv_icmp_ge (tgt := 22) hx hb dX11_power_8 (by decide) (fun cz16 => ?_) (fun cz16 => ?_)
      · skip
        have bz17 := fb_rng p2
        have bz18 := fb_rng xz13
        have zz19 : p2.toInt ≤ xz13.toInt := zi_le.mp cz16
        refine lv_lload_n hx hb dX11_power_22 rfl (lv_at hl 2 rfl) ?_
        rw [hQ]
        exact W.lret (v := xz12) hx hb hr (fun t ht hW => ⟨xz12, rfl, trivial, ht⟩) (fun _ h => absurd h List.not_mem_nil) dX11_power_23
      · skip
        have bz20 := fb_rng p2
        have bz21 := fb_rng xz13
        have zz22 : ¬ p2.toInt ≤ xz13.toInt := fun h9 => cz16 (zi_le.mpr h9)
        refine lv_lload_n hx hb dX11_power_11 rfl (lv_at hl 2 rfl) ?_
        refine lv_iload_n hx hb dX11_power_12 rfl (lv_at hl 0 rfl) ?_
        refine lv_i2l hx hb dX11_power_13 rfl ?_
        refine lv_lmul hx hb dX11_power_14 ?_
        refine lv_topl (fun xz23 exz23 => ?_)
        refine lv_lstore_n (lv' := [(2, .long xz23), (0, .int p1), (1, .int p2), (4, .int xz13)]) hx hb dX11_power_15 rfl hl (by decide) rfl (fun ls hl => ?_)
        obtain ⟨xz24, exz24⟩ : ∃ y : Int32, y = xz13 + Int32.ofInt (1) := ⟨_, rfl⟩
        have fxz24 : xz24.toInt = xz13.toInt + (1) := by rw [exz24]; exact fb_addI (y := Int32.ofInt (1)) (by show -2147483648 ≤ xz13.toInt + (1); omega) (by show xz13.toInt + (1) < 2147483648; omega)
        refine lv_iinc (v := xz24) (lv' := [(4, .int xz24), (2, .long xz23), (0, .int p1), (1, .int p2)]) hx hb dX11_power_16 hl (k := 3) rfl exz24.symm (by decide) rfl (fun ls hl => ?_)
        refine lv_goto (tgt := 5) hx hb dX11_power_19 (by decide) ?_
        exact ih5 ls xz23 xz24 (by show (2147483647 - xz24.toInt).toNat < n9_5; omega) (by show 0 ≤ xz24.toInt; omega) (lv_sub hl [2, 3, 1, 0] rfl)
  exact lp5_kz14 _ ls (1 : Int64) (0 : Int32) (Nat.lt_succ_self _) (by show 0 ≤ (0 : Int); omega) (lv_sub hl [2, 3, 1, 0] rfl)
def wk_c_X11_commonDivisor : List Cond := .code yX11_commonDivisor cX11_commonDivisor 11 (some .long) :: ([] ++ ([]))
theorem wkg_c_X11_commonDivisor : wk_c_X11_commonDivisor.all goodWord = true := by decide +kernel
set_option maxHeartbeats 4000000 in
set_option maxRecDepth 100000 in
theorem c_X11_commonDivisor (l : Launch) (dC : Nat → ClassId) (dI : Nat → Nat → Nat) (k : Nat → ClassId) (p1 : Int64) (p2 : Int64) : Met l yX11_commonDivisor wk_c_X11_commonDivisor ({ frames := 0, cells := 0, slots := 0, locals := 0 }) (va_Pc [.long p1, .long p2] (fun U => va_P (dC, dI) vwCl (List.flatten ([] : List va_W)) U.heap ∧ va_K (dC, dI) vwCl (tK k) U)) (vp_Sl (fun r : Int64 => True)) 0 0 (fun _ => False) := by
  refine Met.ofW (cc := cX11_commonDivisor) (maxL := 11) (ret := (some .long)) (by decide) rfl ?_
  intro p e s m args below meth c s₁ B hml hv
  obtain ⟨rfl, hP, hK⟩ := hv
  have hx := B.exec
  have hb := B.bytes
  have hr := B.returns
  have hts := atoms_spec (ws := wk_c_X11_commonDivisor) B.pre
  have hown : s.vm.findClass RX11 = some m.cls := findClass_of_methodNamed B.named
  have hlocks := B.notSynchronized
  have hP : va_P (dC, dI) vwCl (List.flatten ([] : List va_W)) s.heap := hP
  have hl := lv_entry ([.long p1, .long p2]) (n := 11) (Nat.le_of_ble_eq_true rfl)
  rw [lg_entry_eq]
  generalize (lg_sl ([.long p1, .long p2]) ++ List.replicate (11 - (lg_sl ([.long p1, .long p2])).length) Slot.unset).toArray = ls at hl ⊢
  have hl : lv_has ls 11 [(0, .long p1), (2, .long p2)] := hl
  refine w_gen (fun Q hQ => ?_)
  refine lv_lload_n hx hb dX11_commonDivisor_0 rfl (lv_at hl 0 rfl) ?_
  refine lv_lstore (lv' := [(4, .long p1), (0, .long p1), (2, .long p2)]) hx hb dX11_commonDivisor_1 hl (by decide) rfl (fun ls hl => ?_)
  refine lv_lload_n hx hb dX11_commonDivisor_3 rfl (lv_at hl 2 rfl) ?_
  refine lv_lstore (lv' := [(6, .long p2), (4, .long p1), (0, .long p1), (2, .long p2)]) hx hb dX11_commonDivisor_4 hl (by decide) rfl (fun ls hl => ?_)
  refine lv_iconst (v := 0) hx hb dX11_commonDivisor_6 (by decide) ?_
  refine lv_istore (lv' := [(8, .int 0), (6, .long p2), (4, .long p1), (0, .long p1), (2, .long p2)]) hx hb dX11_commonDivisor_7 hl (by decide) rfl (fun ls hl => ?_)
  have lp9_kz17 : ∀ (n9_9 : Nat) (ls : Array Slot) (xz14 : Int64) (xz15 : Int64) (xz16 : Int32), (2147483647 - xz16.toInt).toNat < n9_9 → 0 ≤ xz16.toInt → lv_has ls 11 [(4, .long xz14), (6, .long xz15), (8, .int xz16)] → W p l e (headSpec wk_c_X11_commonDivisor ({ frames := 0, cells := 0, slots := 0, locals := 0 })).room s m ([.long p1, .long p2] : List Value).toArray below meth c s.heap [] 0 0 Q (F0 m 9 ls []) := by
    intro n9_9
    induction n9_9 with
    | zero => intro ls xz14 xz15 xz16 hm; exact absurd hm (Nat.not_lt_zero _)
    | succ n9_9 ih9 =>
      intro ls xz14 xz15 xz16 hm9 jz18 hl
      refine lv_iload hx hb dX11_commonDivisor_9 (lv_at hl 2 rfl) ?_
      refine lv_sipush (v := 200) hx hb dX11_commonDivisor_11 (by decide) ?_
      refine lv_icmp_ge (tgt := 45) hx hb dX11_commonDivisor_14 (by decide) (fun cz19 => ?_) (fun cz19 => ?_)
      · skip
        have bz20 := fb_rng xz16
        have zz21 : (200 : Int) ≤ xz16.toInt := zi_le.mp cz19
        refine lv_lload hx hb dX11_commonDivisor_45 (lv_at hl 0 rfl) ?_
        rw [hQ]
        exact W.lret (v := xz14) hx hb hr (fun t ht hW => ⟨xz14, rfl, trivial, ht⟩) (fun _ h => absurd h List.not_mem_nil) dX11_commonDivisor_47
      · skip
        have bz22 := fb_rng xz16
        have zz23 : ¬ (200 : Int) ≤ xz16.toInt := fun h9 => cz19 (zi_le.mpr h9)
        refine lv_lload hx hb dX11_commonDivisor_17 (lv_at hl 1 rfl) ?_
        refine lv_lconst (v := 0) hx hb dX11_commonDivisor_19 (by decide) ?_
        refine W.lcmp hx hb dX11_commonDivisor_20 ?_
        refine lv_if_eq (tgt := 45) hx hb dX11_commonDivisor_21 (by decide) (fun cz24 => ?_) (fun cz24 => ?_)
        · skip
          rw [lg_cmp_eq] at cz24
          have zz25 : xz15.toInt = (0 : Int) := zi_eqL.mp cz24
          refine lv_lload hx hb dX11_commonDivisor_45 (lv_at hl 0 rfl) ?_
          rw [hQ]
          exact W.lret (v := xz14) hx hb hr (fun t ht hW => ⟨xz14, rfl, trivial, ht⟩) (fun _ h => absurd h List.not_mem_nil) dX11_commonDivisor_47
        · skip
          rw [lg_cmp_eq] at cz24
          have zz26 : ¬ xz15.toInt = (0 : Int) := fun h9 => cz24 (zi_eqL.mpr h9)
          refine lv_lload hx hb dX11_commonDivisor_24 (lv_at hl 0 rfl) ?_
          refine lv_lload hx hb dX11_commonDivisor_26 (lv_at hl 1 rfl) ?_
          refine lv_lrem hx hb dX11_commonDivisor_28 (fun h9 => by have h8 := zi_eqL.mp h9; have h8 : xz15.toInt = (0 : Int) := h8; omega) ?_
          refine lv_topl (fun xz27 exz27 => ?_)
          refine lv_lstore (lv' := [(9, .long xz27), (4, .long xz14), (6, .long xz15), (8, .int xz16)]) hx hb dX11_commonDivisor_29 hl (by decide) rfl (fun ls hl => ?_)
          refine lv_lload hx hb dX11_commonDivisor_31 (lv_at hl 2 rfl) ?_
          refine lv_lstore (lv' := [(4, .long xz15), (9, .long xz27), (6, .long xz15), (8, .int xz16)]) hx hb dX11_commonDivisor_33 hl (by decide) rfl (fun ls hl => ?_)
          refine lv_lload hx hb dX11_commonDivisor_35 (lv_at hl 1 rfl) ?_
          refine lv_lstore (lv' := [(6, .long xz27), (4, .long xz15), (9, .long xz27), (8, .int xz16)]) hx hb dX11_commonDivisor_37 hl (by decide) rfl (fun ls hl => ?_)
          obtain ⟨xz28, exz28⟩ : ∃ y : Int32, y = xz16 + Int32.ofInt (1) := ⟨_, rfl⟩
          have fxz28 : xz28.toInt = xz16.toInt + (1) := by rw [exz28]; exact fb_addI (y := Int32.ofInt (1)) (by show -2147483648 ≤ xz16.toInt + (1); omega) (by show xz16.toInt + (1) < 2147483648; omega)
          refine lv_iinc (v := xz28) (lv' := [(8, .int xz28), (6, .long xz27), (4, .long xz15), (9, .long xz27)]) hx hb dX11_commonDivisor_39 hl (k := 3) rfl exz28.symm (by decide) rfl (fun ls hl => ?_)
          refine lv_goto (tgt := 9) hx hb dX11_commonDivisor_42 (by decide) ?_
          exact ih9 ls xz15 xz27 xz28 (by show (2147483647 - xz28.toInt).toNat < n9_9; omega) (by show 0 ≤ xz28.toInt; omega) (lv_sub hl [2, 1, 0] rfl)
  exact lp9_kz17 _ ls p1 p2 (0 : Int32) (Nat.lt_succ_self _) (by show 0 ≤ (0 : Int); omega) (lv_sub hl [2, 1, 0] rfl)
def wk_c_X11_lowestTerm : List Cond := .code yX11_lowestTerm cX11_lowestTerm 7 (some .long) :: ([.methodLink RX11 458 Lib.MathLoose.abs_long.x, .static Lib.MathLoose.abs_long.x, .initialized "java/lang/Math", .code Lib.MathLoose.abs_long.x Lib.MathLoose.abs_long.code 2 (some .long), .methodLink RX11 463 yX11_commonDivisor, .static yX11_commonDivisor, .initialized RX11] ++ (wk_c_X11_commonDivisor ++ []))
theorem wkg_c_X11_lowestTerm : wk_c_X11_lowestTerm.all goodWord = true := by decide +kernel
set_option maxHeartbeats 4000000 in
set_option maxRecDepth 100000 in
theorem c_X11_lowestTerm (l : Launch) (dC : Nat → ClassId) (dI : Nat → Nat → Nat) (k : Nat → ClassId) (p1 : Int64) (p2 : Int64) (p3 : Int32) : Met l yX11_lowestTerm wk_c_X11_lowestTerm ({ frames := 1, cells := 0, slots := 0, locals := 80 }) (va_Pc [.long p1, .long p2, .int p3] (fun U => va_P (dC, dI) vwCl (List.flatten ([] : List va_W)) U.heap ∧ va_K (dC, dI) vwCl (tK k) U)) (vp_Sl (fun r : Int64 => True)) 0 0 (fun _ => False) := by
  refine Met.ofW (cc := cX11_lowestTerm) (maxL := 7) (ret := (some .long)) (by decide) rfl ?_
  intro p e s m args below meth c s₁ B hml hv
  obtain ⟨rfl, hP, hK⟩ := hv
  have hx := B.exec
  have hb := B.bytes
  have hr := B.returns
  have hts := atoms_spec (ws := wk_c_X11_lowestTerm) B.pre
  have hown : s.vm.findClass RX11 = some m.cls := findClass_of_methodNamed B.named
  have hlocks := B.notSynchronized
  have hP : va_P (dC, dI) vwCl (List.flatten ([] : List va_W)) s.heap := hP
  have hl := lv_entry ([.long p1, .long p2, .int p3]) (n := 7) (Nat.le_of_ble_eq_true rfl)
  rw [lg_entry_eq]
  generalize (lg_sl ([.long p1, .long p2, .int p3]) ++ List.replicate (7 - (lg_sl ([.long p1, .long p2, .int p3])).length) Slot.unset).toArray = ls at hl ⊢
  have hl : lv_has ls 7 [(0, .long p1), (2, .long p2), (4, .int p3)] := hl
  refine w_gen (fun Q hQ => ?_)
  refine lv_lload_n hx hb dX11_lowestTerm_0 rfl (lv_at hl 0 rfl) ?_
  refine va_mabs_long hx hb (by rw [hml]; exact hl.1.symm) hown (hts (.methodLink RX11 458 Lib.MathLoose.abs_long.x) (wl_mem 0 rfl)) (hts (.static Lib.MathLoose.abs_long.x) (wl_mem 1 rfl)) (hts (.initialized "java/lang/Math") (wl_mem 2 rfl)) (hts (.code Lib.MathLoose.abs_long.x Lib.MathLoose.abs_long.code 2 (some .long)) (wl_mem 3 rfl)) (Nat.le_of_ble_eq_true rfl) (Nat.le_of_ble_eq_true rfl) (Nat.zero_le _) (Nat.zero_le _) dX11_lowestTerm_1 ?_
  refine lv_topl (fun xz1 exz1 => ?_)
  refine lv_lload_n hx hb dX11_lowestTerm_4 rfl (lv_at hl 1 rfl) ?_
  have hPc : va_P (dC, dI) vwCl (List.flatten ([] : List va_W)) s.heap := fun k q h => by simp at h
  refine vp_callSl (va_Run.run (va_runS (As := [.long xz1, .long p2]) (rest := []) ⟨hx, hb, hml, hown, hts⟩ (c_X11_commonDivisor l dC dI k xz1 p2) (va_cwS 2 hts (gk_S (wl_mem 4 rfl) (wl_mem 5 rfl) (wl_mem 6 rfl) (fun w h => List.mem_cons_of_mem _ (List.mem_append_right _ (List.mem_append_left _ h))) wkg_c_X11_commonDivisor) rfl rfl rfl (by decide +kernel) ⟨Nat.le_of_ble_eq_true rfl, Nat.le_of_ble_eq_true rfl⟩) ⟨fun a U g mk q => by obtain ⟨q0, qP, qK⟩ := q; exact ⟨q0, qP, va_K.moved (u := U) (U := U.calling g mk a) (Vm.Alike.refl U.vm) qK⟩, fun U hU hW => ⟨rfl, by rw [hU]; exact hPc, va_K.moved hW.alike hK⟩⟩ rfl rfl hl.1 rfl (lv_room (Nat.le_of_ble_eq_true rfl)) dX11_lowestTerm_5 ⟨Nat.le_of_ble_eq_true rfl, Nat.le_of_ble_eq_true rfl⟩)) (fun rz3 gz2 => ?_)
  clear hPc
  refine lv_lstore (lv' := [(5, .long rz3), (0, .long p1), (2, .long p2), (4, .int p3)]) hx hb dX11_lowestTerm_8 hl (by decide) rfl (fun ls hl => ?_)
  refine lv_lload hx hb dX11_lowestTerm_10 (lv_at hl 0 rfl) ?_
  refine lv_lconst (v := 0) hx hb dX11_lowestTerm_12 (by decide) ?_
  refine W.lcmp hx hb dX11_lowestTerm_13 ?_
  refine lv_if_gt (tgt := 21) hx hb dX11_lowestTerm_14 (by decide) (fun cz4 => ?_) (fun cz4 => ?_)
  · skip
    rw [lg_cmp_gt] at cz4
    have zz5 : (0 : Int) < rz3.toInt := zi_ltL.mp cz4
    refine lv_iload hx hb dX11_lowestTerm_21 (lv_at hl 3 rfl) ?_
    refine lv_if_ne (tgt := 30) hx hb dX11_lowestTerm_23 (by decide) (fun cz6 => ?_) (fun cz6 => ?_)
    · skip
      have zz7 : ¬ p3.toInt = (0 : Int) := fun h9 => cz6 (zi_eq.mpr h9)
      refine lv_lload_n hx hb dX11_lowestTerm_30 rfl (lv_at hl 2 rfl) ?_
      refine lv_lload hx hb dX11_lowestTerm_31 (lv_at hl 0 rfl) ?_
      refine lv_ldiv hx hb dX11_lowestTerm_33 (fun h9 => by have h8 := zi_eqL.mp h9; have h8 : rz3.toInt = (0 : Int) := h8; omega) ?_
      refine lv_topl (fun xz8 exz8 => ?_)
      rw [hQ]
      exact W.lret (v := xz8) hx hb hr (fun t ht hW => ⟨xz8, rfl, trivial, ht⟩) (fun _ h => absurd h List.not_mem_nil) dX11_lowestTerm_34
    · skip
      have zz9 : p3.toInt = (0 : Int) := zi_eq.mp cz6
      refine lv_lload_n hx hb dX11_lowestTerm_26 rfl (lv_at hl 1 rfl) ?_
      refine lv_goto (tgt := 31) hx hb dX11_lowestTerm_27 (by decide) ?_
      refine lv_lload hx hb dX11_lowestTerm_31 (lv_at hl 0 rfl) ?_
      refine lv_ldiv hx hb dX11_lowestTerm_33 (fun h9 => by have h8 := zi_eqL.mp h9; have h8 : rz3.toInt = (0 : Int) := h8; omega) ?_
      refine lv_topl (fun xz10 exz10 => ?_)
      rw [hQ]
      exact W.lret (v := xz10) hx hb hr (fun t ht hW => ⟨xz10, rfl, trivial, ht⟩) (fun _ h => absurd h List.not_mem_nil) dX11_lowestTerm_34
  · skip
    rw [lg_cmp_gt] at cz4
    have zz11 : ¬ (0 : Int) < rz3.toInt := fun h9 => cz4 (zi_ltL.mpr h9)
    refine lv_iload hx hb dX11_lowestTerm_17 (lv_at hl 3 rfl) ?_
    refine lv_i2l hx hb dX11_lowestTerm_19 rfl ?_
    rw [hQ]
    exact W.lret (v := p3.toInt64) hx hb hr (fun t ht hW => ⟨p3.toInt64, rfl, trivial, ht⟩) (fun _ h => absurd h List.not_mem_nil) dX11_lowestTerm_20
def wk_c_X11_hasSlot : List Cond := .code yX11_hasSlot cX11_hasSlot 1 (some .boolean) :: ([] ++ ([]))
theorem wkg_c_X11_hasSlot : wk_c_X11_hasSlot.all goodWord = true := by decide +kernel
set_option maxHeartbeats 4000000 in
set_option maxRecDepth 100000 in
theorem c_X11_hasSlot (l : Launch) (dC : Nat → ClassId) (dI : Nat → Nat → Nat) (k : Nat → ClassId) (p1 : Int32) : Met l yX11_hasSlot wk_c_X11_hasSlot ({ frames := 0, cells := 0, slots := 0, locals := 0 }) (va_Pc [.int p1] (fun U => va_P (dC, dI) vwCl (List.flatten ([] : List va_W)) U.heap ∧ va_K (dC, dI) vwCl (tK k) U)) (vp_Si (fun r : Int32 => (r = 0 ∧ p1 < (0 : Int32)) ∨ (r = 0 ∧ ¬ p1 < (0 : Int32) ∧ (4 : Int32) ≤ p1) ∨ (r = 1 ∧ ¬ p1 < (0 : Int32) ∧ ¬ (4 : Int32) ≤ p1))) 0 0 (fun _ => False) := by
  refine Met.ofW (cc := cX11_hasSlot) (maxL := 1) (ret := (some .boolean)) (by decide) rfl ?_
  intro p e s m args below meth c s₁ B hml hv
  obtain ⟨rfl, hP, hK⟩ := hv
  have hx := B.exec
  have hb := B.bytes
  have hr := B.returns
  have hts := atoms_spec (ws := wk_c_X11_hasSlot) B.pre
  have hown : s.vm.findClass RX11 = some m.cls := findClass_of_methodNamed B.named
  have hlocks := B.notSynchronized
  have hP : va_P (dC, dI) vwCl (List.flatten ([] : List va_W)) s.heap := hP
  have hl := lv_entry ([.int p1]) (n := 1) (Nat.le_of_ble_eq_true rfl)
  rw [lg_entry_eq]
  generalize (lg_sl ([.int p1]) ++ List.replicate (1 - (lg_sl ([.int p1])).length) Slot.unset).toArray = ls at hl ⊢
  have hl : lv_has ls 1 [(0, .int p1)] := hl
  refine w_gen (fun Q hQ => ?_)
  refine lv_iload_n hx hb dX11_hasSlot_0 rfl (lv_at hl 0 rfl) ?_
  refine lv_if_lt (tgt := 13) hx hb dX11_hasSlot_1 (by decide) (fun cz1 => ?_) (fun cz1 => ?_)
  · skip
    have bz2 := fb_rng p1
    have zz3 : p1.toInt < (0 : Int) := zi_lt.mp cz1
    refine lv_iconst (v := 0) hx hb dX11_hasSlot_13 (by decide) ?_
    rw [hQ]
    exact W.zret (v := (0 : Int32)) hx hb hr rfl (fun t ht hW => ⟨(0 : Int32), rfl, Or.inl ⟨rfl, cz1⟩, ht⟩) (fun _ h => absurd h List.not_mem_nil) dX11_hasSlot_14
  · skip
    have bz4 := fb_rng p1
    have zz5 : ¬ p1.toInt < (0 : Int) := fun h9 => cz1 (zi_lt.mpr h9)
    refine lv_iload_n hx hb dX11_hasSlot_4 rfl (lv_at hl 0 rfl) ?_
    refine lv_iconst (v := 4) hx hb dX11_hasSlot_5 (by decide) ?_
    refine lv_icmp_ge (tgt := 13) hx hb dX11_hasSlot_6 (by decide) (fun cz6 => ?_) (fun cz6 => ?_)
    · skip
      have zz7 : (4 : Int) ≤ p1.toInt := zi_le.mp cz6
      refine lv_iconst (v := 0) hx hb dX11_hasSlot_13 (by decide) ?_
      rw [hQ]
      exact W.zret (v := (0 : Int32)) hx hb hr rfl (fun t ht hW => ⟨(0 : Int32), rfl, Or.inr (Or.inl ⟨rfl, cz1, cz6⟩), ht⟩) (fun _ h => absurd h List.not_mem_nil) dX11_hasSlot_14
    · skip
      have zz8 : ¬ (4 : Int) ≤ p1.toInt := fun h9 => cz6 (zi_le.mpr h9)
      refine lv_iconst (v := 1) hx hb dX11_hasSlot_9 (by decide) ?_
      refine lv_goto (tgt := 14) hx hb dX11_hasSlot_10 (by decide) ?_
      rw [hQ]
      exact W.zret (v := (1 : Int32)) hx hb hr rfl (fun t ht hW => ⟨(1 : Int32), rfl, Or.inr (Or.inr (⟨rfl, cz1, cz6⟩)), ht⟩) (fun _ h => absurd h List.not_mem_nil) dX11_hasSlot_14
def wk_c_X11_noValley : List Cond := .code yX11_noValley cX11_noValley 1 (some .boolean) :: ([.fieldLink RX11 19 "SagMemory" "told" "LSagMemory$Valley;", .fieldLink RX11 122 "SagMemory$Valley" "lines" "I"] ++ (wsX110 ++ (wsX100 ++ [])))
theorem wkg_c_X11_noValley : wk_c_X11_noValley.all goodWord = true := by decide +kernel
set_option maxHeartbeats 4000000 in
set_option maxRecDepth 100000 in
theorem c_X11_noValley (l : Launch) (dC : Nat → ClassId) (dI : Nat → Nat → Nat) (k : Nat → ClassId) (qX : Nat → Nat) (tapeX : Nat) (actsX : Nat) (nowX : Nat) (trialX : Nat) (storyX : Nat) (attemptX : Nat) (orderSearchX : Nat) (routeSearchX : Nat) (setSearchX : Nat) (probeX : Nat) (slot0X : Nat) (slot1X : Nat) (slot2X : Nat) (slot3X : Nat) (image0X : Nat) (image1X : Nat) (image2X : Nat) (aX : Nat → Nat → Int32) (qV : Nat → Nat) (vV : Nat → Int32) (bV : Nat → Int32) (cV : Nat → Int32) (wV : Nat → Int32) (aV : Nat → Nat → Int32) (eV : Nat → Nat → Int32) (hbV : Rg 0 3 bV) (hcV : Rg 0 7 cV) (hwV : Rg 0 5 wV) (heV : RgA 0 99 eV) : Met l yX11_noValley wk_c_X11_noValley ({ frames := 0, cells := 0, slots := 0, locals := 0 }) (va_Pc [.ref (qX 0)] (fun U => va_P (dC, dI) vwCl (List.flatten [(wSag qX k tapeX (qV 0) actsX nowX trialX storyX attemptX orderSearchX routeSearchX setSearchX probeX slot0X slot1X slot2X slot3X image0X image1X image2X aX), (wValley qV k vV bV cV wV aV eV)]) U.heap ∧ va_K (dC, dI) vwCl (tK k) U)) (vp_Si (fun r : Int32 => (r.toInt = 0 ∨ r.toInt = 1))) 0 0 (fun _ => False) := by
  refine Met.ofW (cc := cX11_noValley) (maxL := 1) (ret := (some .boolean)) (by decide) rfl ?_
  intro p e s m args below meth c s₁ B hml hv
  obtain ⟨rfl, hP, hK⟩ := hv
  have hx := B.exec
  have hb := B.bytes
  have hr := B.returns
  have hts := atoms_spec (ws := wk_c_X11_noValley) B.pre
  have hown : s.vm.findClass RX11 = some m.cls := findClass_of_methodNamed B.named
  have hlocks := B.notSynchronized
  have hP : va_P (dC, dI) vwCl (List.flatten [(wSag qX k tapeX (qV 0) actsX nowX trialX storyX attemptX orderSearchX routeSearchX setSearchX probeX slot0X slot1X slot2X slot3X image0X image1X image2X aX), (wValley qV k vV bV cV wV aV eV)]) s.heap := hP
  have hl := lv_entry ([.ref (qX 0)]) (n := 1) (Nat.le_of_ble_eq_true rfl)
  rw [lg_entry_eq]
  generalize (lg_sl ([.ref (qX 0)]) ++ List.replicate (1 - (lg_sl ([.ref (qX 0)])).length) Slot.unset).toArray = ls at hl ⊢
  have hl : lv_has ls 1 [(0, .ref (qX 0))] := hl
  refine w_gen (fun Q hQ => ?_)
  refine lv_aload_n hx hb dX11_noValley_0 rfl (lv_at hl 0 rfl) ?_
  refine va_get (D := (dC, dI)) (ci := 11) (v := .ref (qV 0)) (C := RX11) (T := TX11) (N := 15) hx hb hts (fun w h => List.mem_cons_of_mem _ (List.mem_append_right _ (List.mem_append_left _ h))) hown hK hP 0 rfl rfl 1 (by decide) (hts (.fieldLink RX11 19 "SagMemory" "told" "LSagMemory$Valley;") (wl_mem 0 rfl)) (fun _ h9 => h9) rfl dX11_noValley_1 ?_
  refine va_get (D := (dC, dI)) (ci := 10) (v := .int (vV 0)) (C := RX10) (T := TX10) (N := 16) hx hb hts (fun w h => List.mem_cons_of_mem _ (List.mem_append_right _ (List.mem_append_right _ (List.mem_append_left _ h)))) hown hK hP 5 rfl rfl 7 (by decide) (hts (.fieldLink RX11 122 "SagMemory$Valley" "lines" "I") (wl_mem 1 rfl)) (fun _ h9 => h9) rfl dX11_noValley_4 ?_
  refine lv_if_ne (tgt := 14) hx hb dX11_noValley_7 (by decide) (fun cz1 => ?_) (fun cz1 => ?_)
  · skip
    have zz2 : ¬ (vV 0).toInt = (0 : Int) := fun h9 => cz1 (zi_eq.mpr h9)
    refine lv_iconst (v := 0) hx hb dX11_noValley_14 (by decide) ?_
    rw [hQ]
    exact W.zret (v := (0 : Int32)) hx hb hr rfl (fun t ht hW => ⟨(0 : Int32), rfl, (by show (0 : Int) = 0 ∨ (0 : Int) = 1; omega), ht⟩) (fun _ h => absurd h List.not_mem_nil) dX11_noValley_15
  · skip
    have zz3 : (vV 0).toInt = (0 : Int) := zi_eq.mp cz1
    refine lv_iconst (v := 1) hx hb dX11_noValley_10 (by decide) ?_
    refine lv_goto (tgt := 15) hx hb dX11_noValley_11 (by decide) ?_
    rw [hQ]
    exact W.zret (v := (1 : Int32)) hx hb hr rfl (fun t ht hW => ⟨(1 : Int32), rfl, (by show (1 : Int) = 0 ∨ (1 : Int) = 1; omega), ht⟩) (fun _ h => absurd h List.not_mem_nil) dX11_noValley_15
def wk_c_X11_hasBoth : List Cond := .code yX11_hasBoth cX11_hasBoth 3 (some .boolean) :: ([.fieldLink RX11 19 "SagMemory" "told" "LSagMemory$Valley;", .methodLink RX11 131 yX10_hasBridge, .instanceMethod yX10_hasBridge, .selects RX10 yX10_hasBridge yX10_hasBridge, .initialized RX10, .methodLink RX11 141 yX10_hasCart, .instanceMethod yX10_hasCart, .selects RX10 yX10_hasCart yX10_hasCart] ++ (wsX110 ++ (wk_c_X10_hasBridge ++ (wk_c_X10_hasCart ++ []))))
theorem wkg_c_X11_hasBoth : wk_c_X11_hasBoth.all goodWord = true := by decide +kernel
set_option maxHeartbeats 4000000 in
set_option maxRecDepth 100000 in
theorem c_X11_hasBoth (l : Launch) (dC : Nat → ClassId) (dI : Nat → Nat → Nat) (k : Nat → ClassId) (qX : Nat → Nat) (tapeX : Nat) (actsX : Nat) (nowX : Nat) (trialX : Nat) (storyX : Nat) (attemptX : Nat) (orderSearchX : Nat) (routeSearchX : Nat) (setSearchX : Nat) (probeX : Nat) (slot0X : Nat) (slot1X : Nat) (slot2X : Nat) (slot3X : Nat) (image0X : Nat) (image1X : Nat) (image2X : Nat) (aX : Nat → Nat → Int32) (qV : Nat → Nat) (vV : Nat → Int32) (bV : Nat → Int32) (cV : Nat → Int32) (wV : Nat → Int32) (aV : Nat → Nat → Int32) (eV : Nat → Nat → Int32) (p1 : Int32) (p2 : Int32) (hbV : Rg 0 3 bV) (hcV : Rg 0 7 cV) (hwV : Rg 0 5 wV) (heV : RgA 0 99 eV) : Met l yX11_hasBoth wk_c_X11_hasBoth ({ frames := 1, cells := 0, slots := 0, locals := 21 }) (va_Pc [.ref (qX 0), .int p1, .int p2] (fun U => va_P (dC, dI) vwCl (List.flatten [(wSag qX k tapeX (qV 0) actsX nowX trialX storyX attemptX orderSearchX routeSearchX setSearchX probeX slot0X slot1X slot2X slot3X image0X image1X image2X aX), (wValley qV k vV bV cV wV aV eV)]) U.heap ∧ va_K (dC, dI) vwCl (tK k) U)) (vp_Si (fun r : Int32 => (r = 0 ∧ p1 < (0 : Int32)) ∨ (r = 0 ∧ ¬ p1 < (0 : Int32) ∧ (bV 0) ≤ p1) ∨ (r = 0 ∧ ¬ p1 < (0 : Int32) ∧ ¬ (bV 0) ≤ p1 ∧ p2 < (0 : Int32)) ∨ (r = 0 ∧ ¬ p1 < (0 : Int32) ∧ ¬ (bV 0) ≤ p1 ∧ ¬ p2 < (0 : Int32) ∧ (cV 0) ≤ p2) ∨ (r = 1 ∧ ¬ p1 < (0 : Int32) ∧ ¬ (bV 0) ≤ p1 ∧ ¬ p2 < (0 : Int32) ∧ ¬ (cV 0) ≤ p2))) 0 0 (fun _ => False) := by
  refine Met.ofW (cc := cX11_hasBoth) (maxL := 3) (ret := (some .boolean)) (by decide) rfl ?_
  intro p e s m args below meth c s₁ B hml hv
  obtain ⟨rfl, hP, hK⟩ := hv
  have hx := B.exec
  have hb := B.bytes
  have hr := B.returns
  have hts := atoms_spec (ws := wk_c_X11_hasBoth) B.pre
  have hown : s.vm.findClass RX11 = some m.cls := findClass_of_methodNamed B.named
  have hlocks := B.notSynchronized
  have hP : va_P (dC, dI) vwCl (List.flatten [(wSag qX k tapeX (qV 0) actsX nowX trialX storyX attemptX orderSearchX routeSearchX setSearchX probeX slot0X slot1X slot2X slot3X image0X image1X image2X aX), (wValley qV k vV bV cV wV aV eV)]) s.heap := hP
  have hl := lv_entry ([.ref (qX 0), .int p1, .int p2]) (n := 3) (Nat.le_of_ble_eq_true rfl)
  rw [lg_entry_eq]
  generalize (lg_sl ([.ref (qX 0), .int p1, .int p2]) ++ List.replicate (3 - (lg_sl ([.ref (qX 0), .int p1, .int p2])).length) Slot.unset).toArray = ls at hl ⊢
  have hl : lv_has ls 3 [(0, .ref (qX 0)), (1, .int p1), (2, .int p2)] := hl
  refine w_gen (fun Q hQ => ?_)
  refine lv_aload_n hx hb dX11_hasBoth_0 rfl (lv_at hl 0 rfl) ?_
  refine va_get (D := (dC, dI)) (ci := 11) (v := .ref (qV 0)) (C := RX11) (T := TX11) (N := 15) hx hb hts (fun w h => List.mem_cons_of_mem _ (List.mem_append_right _ (List.mem_append_left _ h))) hown hK hP 0 rfl rfl 1 (by decide) (hts (.fieldLink RX11 19 "SagMemory" "told" "LSagMemory$Valley;") (wl_mem 0 rfl)) (fun _ h9 => h9) rfl dX11_hasBoth_1 ?_
  refine lv_iload_n hx hb dX11_hasBoth_4 rfl (lv_at hl 1 rfl) ?_
  have hPc := hP.sub (ws' := (List.flatten [(wValley qV k vV bV cV wV aV eV)])) [5, 6, 7, 8, 9, 10, 11, 12] rfl
  refine vp_callSi (va_Run.run (va_runV (As := [.int p1]) (rest := []) ⟨hx, hb, hml, hown, hts⟩ (c_X10_hasBridge l dC dI k qV vV bV cV wV aV eV p1 hbV hcV hwV heV) (cwV 1 hts (gk_V (wl_mem 1 rfl) (wl_mem 2 rfl) (wl_mem 3 rfl) (wl_mem 4 rfl) (fun w h => List.mem_cons_of_mem _ (List.mem_append_right _ (List.mem_append_right _ (List.mem_append_left _ h)))) wkg_c_X10_hasBridge) rfl rfl rfl (by decide +kernel) ⟨Nat.le_of_ble_eq_true rfl, Nat.le_of_ble_eq_true rfl⟩) ⟨fun a U g mk q => by obtain ⟨q0, qP, qK⟩ := q; exact ⟨q0, qP, va_K.moved (u := U) (U := U.calling g mk a) (Vm.Alike.refl U.vm) qK⟩, va_recv hK hPc (ci := 10) (q0 := 0) rfl rfl, fun U hU hW => ⟨rfl, by rw [hU]; exact hPc, va_K.moved hW.alike hK⟩⟩ rfl rfl hl.1 rfl (lv_room (Nat.le_of_ble_eq_true rfl)) dX11_hasBoth_5 ⟨Nat.le_of_ble_eq_true rfl, Nat.le_of_ble_eq_true rfl⟩)) (fun rz2 gz1 => ?_)
  clear hPc
  rcases gz1 with ⟨er, cz3⟩ | ⟨er, cz4, cz5⟩ | ⟨er, cz6, cz7⟩
  · obtain rfl := er.symm
    have bz8 := fb_rng p1
    have zz9 : p1.toInt < (0 : Int) := zi_lt.mp cz3
    refine lv_if_eq (tgt := 26) hx hb dX11_hasBoth_8 (by decide) (fun cz10 => ?_) (fun cz10 => ?_)
    · skip
      refine lv_iconst (v := 0) hx hb dX11_hasBoth_26 (by decide) ?_
      rw [hQ]
      exact W.zret (v := (0 : Int32)) hx hb hr rfl (fun t ht hW => ⟨(0 : Int32), rfl, Or.inl ⟨rfl, cz3⟩, ht⟩) (fun _ h => absurd h List.not_mem_nil) dX11_hasBoth_27
    · skip
      exact absurd cz10 (by decide)
  · obtain rfl := er.symm
    have bz11 := fb_rng p1
    have zz12 : ¬ p1.toInt < (0 : Int) := fun h9 => cz4 (zi_lt.mpr h9)
    have bz13 := hbV 0
    have zz14 : (bV 0).toInt ≤ p1.toInt := zi_le.mp cz5
    refine lv_if_eq (tgt := 26) hx hb dX11_hasBoth_8 (by decide) (fun cz15 => ?_) (fun cz15 => ?_)
    · skip
      refine lv_iconst (v := 0) hx hb dX11_hasBoth_26 (by decide) ?_
      rw [hQ]
      exact W.zret (v := (0 : Int32)) hx hb hr rfl (fun t ht hW => ⟨(0 : Int32), rfl, Or.inr (Or.inl ⟨rfl, cz4, cz5⟩), ht⟩) (fun _ h => absurd h List.not_mem_nil) dX11_hasBoth_27
    · skip
      exact absurd cz15 (by decide)
  · obtain rfl := er.symm
    have bz16 := fb_rng p1
    have zz17 : ¬ p1.toInt < (0 : Int) := fun h9 => cz6 (zi_lt.mpr h9)
    have bz18 := hbV 0
    have zz19 : ¬ (bV 0).toInt ≤ p1.toInt := fun h9 => cz7 (zi_le.mpr h9)
    refine lv_if_eq (tgt := 26) hx hb dX11_hasBoth_8 (by decide) (fun cz20 => ?_) (fun cz20 => ?_)
    · skip
      exact absurd cz20 (by decide)
    · skip
      refine lv_aload_n hx hb dX11_hasBoth_11 rfl (lv_at hl 0 rfl) ?_
      refine va_get (D := (dC, dI)) (ci := 11) (v := .ref (qV 0)) (C := RX11) (T := TX11) (N := 15) hx hb hts (fun w h => List.mem_cons_of_mem _ (List.mem_append_right _ (List.mem_append_left _ h))) hown hK hP 0 rfl rfl 1 (by decide) (hts (.fieldLink RX11 19 "SagMemory" "told" "LSagMemory$Valley;") (wl_mem 0 rfl)) (fun _ h9 => h9) rfl dX11_hasBoth_12 ?_
      refine lv_iload_n hx hb dX11_hasBoth_15 rfl (lv_at hl 2 rfl) ?_
      have hPc := hP.sub (ws' := (List.flatten [(wValley qV k vV bV cV wV aV eV)])) [5, 6, 7, 8, 9, 10, 11, 12] rfl
      refine vp_callSi (va_Run.run (va_runV (As := [.int p2]) (rest := []) ⟨hx, hb, hml, hown, hts⟩ (c_X10_hasCart l dC dI k qV vV bV cV wV aV eV p2 hbV hcV hwV heV) (cwV 1 hts (gk_V (wl_mem 5 rfl) (wl_mem 6 rfl) (wl_mem 7 rfl) (wl_mem 4 rfl) (fun w h => List.mem_cons_of_mem _ (List.mem_append_right _ (List.mem_append_right _ (List.mem_append_right _ (List.mem_append_left _ h))))) wkg_c_X10_hasCart) rfl rfl rfl (by decide +kernel) ⟨Nat.le_of_ble_eq_true rfl, Nat.le_of_ble_eq_true rfl⟩) ⟨fun a U g mk q => by obtain ⟨q0, qP, qK⟩ := q; exact ⟨q0, qP, va_K.moved (u := U) (U := U.calling g mk a) (Vm.Alike.refl U.vm) qK⟩, va_recv hK hPc (ci := 10) (q0 := 0) rfl rfl, fun U hU hW => ⟨rfl, by rw [hU]; exact hPc, va_K.moved hW.alike hK⟩⟩ rfl rfl hl.1 rfl (lv_room (Nat.le_of_ble_eq_true rfl)) dX11_hasBoth_16 ⟨Nat.le_of_ble_eq_true rfl, Nat.le_of_ble_eq_true rfl⟩)) (fun rz22 gz21 => ?_)
      clear hPc
      rcases gz21 with ⟨er, cz23⟩ | ⟨er, cz24, cz25⟩ | ⟨er, cz26, cz27⟩
      · obtain rfl := er.symm
        have bz28 := fb_rng p2
        have zz29 : p2.toInt < (0 : Int) := zi_lt.mp cz23
        refine lv_if_eq (tgt := 26) hx hb dX11_hasBoth_19 (by decide) (fun cz30 => ?_) (fun cz30 => ?_)
        · skip
          refine lv_iconst (v := 0) hx hb dX11_hasBoth_26 (by decide) ?_
          rw [hQ]
          exact W.zret (v := (0 : Int32)) hx hb hr rfl (fun t ht hW => ⟨(0 : Int32), rfl, Or.inr (Or.inr (Or.inl ⟨rfl, cz6, cz7, cz23⟩)), ht⟩) (fun _ h => absurd h List.not_mem_nil) dX11_hasBoth_27
        · skip
          exact absurd cz30 (by decide)
      · obtain rfl := er.symm
        have bz31 := fb_rng p2
        have zz32 : ¬ p2.toInt < (0 : Int) := fun h9 => cz24 (zi_lt.mpr h9)
        have bz33 := hcV 0
        have zz34 : (cV 0).toInt ≤ p2.toInt := zi_le.mp cz25
        refine lv_if_eq (tgt := 26) hx hb dX11_hasBoth_19 (by decide) (fun cz35 => ?_) (fun cz35 => ?_)
        · skip
          refine lv_iconst (v := 0) hx hb dX11_hasBoth_26 (by decide) ?_
          rw [hQ]
          exact W.zret (v := (0 : Int32)) hx hb hr rfl (fun t ht hW => ⟨(0 : Int32), rfl, Or.inr (Or.inr (Or.inr (Or.inl ⟨rfl, cz6, cz7, cz24, cz25⟩))), ht⟩) (fun _ h => absurd h List.not_mem_nil) dX11_hasBoth_27
        · skip
          exact absurd cz35 (by decide)
      · obtain rfl := er.symm
        have bz36 := fb_rng p2
        have zz37 : ¬ p2.toInt < (0 : Int) := fun h9 => cz26 (zi_lt.mpr h9)
        have bz38 := hcV 0
        have zz39 : ¬ (cV 0).toInt ≤ p2.toInt := fun h9 => cz27 (zi_le.mpr h9)
        refine lv_if_eq (tgt := 26) hx hb dX11_hasBoth_19 (by decide) (fun cz40 => ?_) (fun cz40 => ?_)
        · skip
          exact absurd cz40 (by decide)
        · skip
          refine lv_iconst (v := 1) hx hb dX11_hasBoth_22 (by decide) ?_
          refine lv_goto (tgt := 27) hx hb dX11_hasBoth_23 (by decide) ?_
          rw [hQ]
          exact W.zret (v := (1 : Int32)) hx hb hr rfl (fun t ht hW => ⟨(1 : Int32), rfl, Or.inr (Or.inr (Or.inr (Or.inr (⟨rfl, cz6, cz7, cz26, cz27⟩)))), ht⟩) (fun _ h => absurd h List.not_mem_nil) dX11_hasBoth_27
def wk_c_X11_rowsHad : List Cond := .code yX11_rowsHad cX11_rowsHad 3 (some .int) :: ([.fieldLink RX11 85 "SagMemory" "slots" "[LSagMemory$Slot;", .fieldLink RX11 386 "SagMemory$Slot" "has" "Z"] ++ (wsX110 ++ (wsX60 ++ [])))
theorem wkg_c_X11_rowsHad : wk_c_X11_rowsHad.all goodWord = true := by decide +kernel
set_option maxHeartbeats 4000000 in
set_option maxRecDepth 100000 in
theorem c_X11_rowsHad (l : Launch) (dC : Nat → ClassId) (dI : Nat → Nat → Nat) (k : Nat → ClassId) (qX : Nat → Nat) (tapeX : Nat) (toldX : Nat) (actsX : Nat) (nowX : Nat) (trialX : Nat) (storyX : Nat) (attemptX : Nat) (orderSearchX : Nat) (routeSearchX : Nat) (setSearchX : Nat) (probeX : Nat) (image0X : Nat) (image1X : Nat) (image2X : Nat) (aX : Nat → Nat → Int32) (qL0 : Nat → Nat) (vL0 : Nat → Int32) (sL0 : Nat → Int32) (lL0 : Nat → Nat → Int64) (qL1 : Nat → Nat) (vL1 : Nat → Int32) (sL1 : Nat → Int32) (lL1 : Nat → Nat → Int64) (qL2 : Nat → Nat) (vL2 : Nat → Int32) (sL2 : Nat → Int32) (lL2 : Nat → Nat → Int64) (qL3 : Nat → Nat) (vL3 : Nat → Int32) (sL3 : Nat → Int32) (lL3 : Nat → Nat → Int64) (hsL0 : Rg 0 60 sL0) (hsL1 : Rg 0 60 sL1) (hsL2 : Rg 0 60 sL2) (hsL3 : Rg 0 60 sL3) : Met l yX11_rowsHad wk_c_X11_rowsHad ({ frames := 0, cells := 0, slots := 0, locals := 0 }) (va_Pc [.ref (qX 0)] (fun U => va_P (dC, dI) vwCl (List.flatten [(wSag qX k tapeX toldX actsX nowX trialX storyX attemptX orderSearchX routeSearchX setSearchX probeX (qL0 0) (qL1 0) (qL2 0) (qL3 0) image0X image1X image2X aX), (wSlot qL0 k vL0 sL0 lL0), (wSlot qL1 k vL1 sL1 lL1), (wSlot qL2 k vL2 sL2 lL2), (wSlot qL3 k vL3 sL3 lL3)]) U.heap ∧ va_K (dC, dI) vwCl (tK k) U)) (vp_Si (fun r : Int32 => True)) 0 0 (fun _ => False) := by
  refine Met.ofW (cc := cX11_rowsHad) (maxL := 3) (ret := (some .int)) (by decide) rfl ?_
  intro p e s m args below meth c s₁ B hml hv
  obtain ⟨rfl, hP, hK⟩ := hv
  have hx := B.exec
  have hb := B.bytes
  have hr := B.returns
  have hts := atoms_spec (ws := wk_c_X11_rowsHad) B.pre
  have hown : s.vm.findClass RX11 = some m.cls := findClass_of_methodNamed B.named
  have hlocks := B.notSynchronized
  have hP : va_P (dC, dI) vwCl (List.flatten [(wSag qX k tapeX toldX actsX nowX trialX storyX attemptX orderSearchX routeSearchX setSearchX probeX (qL0 0) (qL1 0) (qL2 0) (qL3 0) image0X image1X image2X aX), (wSlot qL0 k vL0 sL0 lL0), (wSlot qL1 k vL1 sL1 lL1), (wSlot qL2 k vL2 sL2 lL2), (wSlot qL3 k vL3 sL3 lL3)]) s.heap := hP
  have hl := lv_entry ([.ref (qX 0)]) (n := 3) (Nat.le_of_ble_eq_true rfl)
  rw [lg_entry_eq]
  generalize (lg_sl ([.ref (qX 0)]) ++ List.replicate (3 - (lg_sl ([.ref (qX 0)])).length) Slot.unset).toArray = ls at hl ⊢
  have hl : lv_has ls 3 [(0, .ref (qX 0))] := hl
  refine w_gen (fun Q hQ => ?_)
  refine lv_iconst (v := 0) hx hb dX11_rowsHad_0 (by decide) ?_
  refine lv_istore_n (lv' := [(1, .int 0), (0, .ref (qX 0))]) hx hb dX11_rowsHad_1 rfl hl (by decide) rfl (fun ls hl => ?_)
  refine lv_iconst (v := 0) hx hb dX11_rowsHad_2 (by decide) ?_
  refine lv_istore_n (lv' := [(2, .int 0), (1, .int 0), (0, .ref (qX 0))]) hx hb dX11_rowsHad_3 rfl hl (by decide) rfl (fun ls hl => ?_)
  have lp4_kz59 : ∀ (n9_4 : Nat) (ls : Array Slot) (xz57 : Int32) (xz58 : Int32), (2147483647 - xz58.toInt).toNat < n9_4 → 0 ≤ xz58.toInt → lv_has ls 3 [(0, .ref (qX 0)), (1, .int xz57), (2, .int xz58)] → W p l e (headSpec wk_c_X11_rowsHad ({ frames := 0, cells := 0, slots := 0, locals := 0 })).room s m ([.ref (qX 0)] : List Value).toArray below meth c s.heap [] 0 0 Q (F0 m 4 ls []) := by
    intro n9_4
    induction n9_4 with
    | zero => intro ls xz57 xz58 hm; exact absurd hm (Nat.not_lt_zero _)
    | succ n9_4 ih4 =>
      intro ls xz57 xz58 hm4 jz60 hl
      refine lv_iload_n hx hb dX11_rowsHad_4 rfl (lv_at hl 2 rfl) ?_
      refine lv_iconst (v := 4) hx hb dX11_rowsHad_5 (by decide) ?_
      refine lv_icmp_ge (tgt := 30) hx hb dX11_rowsHad_6 (by decide) (fun cz61 => ?_) (fun cz61 => ?_)
      · skip
        have bz62 := fb_rng xz58
        have zz63 : (4 : Int) ≤ xz58.toInt := zi_le.mp cz61
        refine lv_iload_n hx hb dX11_rowsHad_30 rfl (lv_at hl 1 rfl) ?_
        rw [hQ]
        exact W.iret (v := xz57) hx hb hr (fun t ht hW => ⟨xz57, rfl, trivial, ht⟩) (fun _ h => absurd h List.not_mem_nil) dX11_rowsHad_31
      · skip
        have bz64 := fb_rng xz58
        have zz65 : ¬ (4 : Int) ≤ xz58.toInt := fun h9 => cz61 (zi_le.mpr h9)
        refine lv_aload_n hx hb dX11_rowsHad_9 rfl (lv_at hl 0 rfl) ?_
        refine va_get (D := (dC, dI)) (ci := 11) (v := .ref (qX 3)) (C := RX11) (T := TX11) (N := 15) hx hb hts (fun w h => List.mem_cons_of_mem _ (List.mem_append_right _ (List.mem_append_left _ h))) hown hK hP 0 rfl rfl 13 (by decide) (hts (.fieldLink RX11 85 "SagMemory" "slots" "[LSagMemory$Slot;") (wl_mem 0 rfl)) (fun _ h9 => h9) rfl dX11_rowsHad_10 ?_
        refine lv_iload_n hx hb dX11_rowsHad_13 rfl (lv_at hl 2 rfl) ?_
        rcases (show xz58 = 0 ∨ xz58 = 1 ∨ xz58 = 2 ∨ xz58 = 3 by simp only [zi_eq]; show xz58.toInt = 0 ∨ xz58.toInt = 1 ∨ xz58.toInt = 2 ∨ xz58.toInt = 3; omega) with cz66 | cz66 | cz66 | cz66
        · skip
          have zz67 : xz58.toInt = (0 : Int) := zi_eq.mp cz66
          refine W.eq (g2 := F0 m 14 ls [.int 0, .ref (qX 3)]) (by rw [cz66]) ?_
          refine va_aldq hx hb hK hP 3 6 rfl rfl (by unfold vp_in; decide) dX11_rowsHad_14 ?_
          refine W.eq (g2 := F0 m 15 ls [.ref (qL0 0)]) rfl ?_
          refine va_get (D := (dC, dI)) (ci := 6) (v := .int (vL0 0)) (C := RX6) (T := TX6) (N := 4) hx hb hts (fun w h => List.mem_cons_of_mem _ (List.mem_append_right _ (List.mem_append_right _ (List.mem_append_left _ h)))) hown hK hP 5 rfl rfl 1 (by decide) (hts (.fieldLink RX11 386 "SagMemory$Slot" "has" "Z") (wl_mem 1 rfl)) (fun _ h9 => h9) rfl dX11_rowsHad_15 ?_
          have ct24_kz73 : ∀ (ls : Array Slot) (xz72 : Int32), lv_has ls 3 [(0, .ref (qX 0)), (1, .int xz72), (2, .int xz58)] → W p l e (headSpec wk_c_X11_rowsHad ({ frames := 0, cells := 0, slots := 0, locals := 0 })).room s m ([.ref (qX 0)] : List Value).toArray below meth c s.heap [] 0 0 Q (F0 m 24 ls []) := by
            intro ls xz72  hl
            obtain ⟨xz74, exz74⟩ : ∃ y : Int32, y = xz58 + Int32.ofInt (1) := ⟨_, rfl⟩
            have fxz74 : xz74.toInt = xz58.toInt + (1) := by rw [exz74]; exact fb_addI (y := Int32.ofInt (1)) (by show -2147483648 ≤ xz58.toInt + (1); omega) (by show xz58.toInt + (1) < 2147483648; omega)
            refine lv_iinc (v := xz74) (lv' := [(2, .int xz74), (0, .ref (qX 0)), (1, .int xz72)]) hx hb dX11_rowsHad_24 hl (k := 2) rfl exz74.symm (by decide) rfl (fun ls hl => ?_)
            refine lv_goto (tgt := 4) hx hb dX11_rowsHad_27 (by decide) ?_
            exact ih4 ls xz72 xz74 (by show (2147483647 - xz74.toInt).toNat < n9_4; omega) (by show 0 ≤ xz74.toInt; omega) (lv_sub hl [1, 2, 0] rfl)
          refine lv_if_eq (tgt := 24) hx hb dX11_rowsHad_18 (by decide) (fun cz75 => ?_) (fun cz75 => ?_)
          · skip
            have zz76 : (vL0 0).toInt = (0 : Int) := zi_eq.mp cz75
            exact ct24_kz73 ls xz57   (lv_sub hl [0, 1, 2] rfl)
          · skip
            have zz77 : ¬ (vL0 0).toInt = (0 : Int) := fun h9 => cz75 (zi_eq.mpr h9)
            obtain ⟨xz78, exz78⟩ : ∃ y : Int32, y = xz57 + Int32.ofInt (1) := ⟨_, rfl⟩
            refine lv_iinc (v := xz78) (lv' := [(1, .int xz78), (0, .ref (qX 0)), (2, .int xz58)]) hx hb dX11_rowsHad_21 hl (k := 1) rfl exz78.symm (by decide) rfl (fun ls hl => ?_)
            exact ct24_kz73 ls xz78   (lv_sub hl [1, 0, 2] rfl)
        · skip
          have zz79 : xz58.toInt = (1 : Int) := zi_eq.mp cz66
          refine W.eq (g2 := F0 m 14 ls [.int 1, .ref (qX 3)]) (by rw [cz66]) ?_
          refine va_aldq hx hb hK hP 3 6 rfl rfl (by unfold vp_in; decide) dX11_rowsHad_14 ?_
          refine W.eq (g2 := F0 m 15 ls [.ref (qL1 0)]) rfl ?_
          refine va_get (D := (dC, dI)) (ci := 6) (v := .int (vL1 0)) (C := RX6) (T := TX6) (N := 4) hx hb hts (fun w h => List.mem_cons_of_mem _ (List.mem_append_right _ (List.mem_append_right _ (List.mem_append_left _ h)))) hown hK hP 7 rfl rfl 1 (by decide) (hts (.fieldLink RX11 386 "SagMemory$Slot" "has" "Z") (wl_mem 1 rfl)) (fun _ h9 => h9) rfl dX11_rowsHad_15 ?_
          have ct24_kz85 : ∀ (ls : Array Slot) (xz84 : Int32), lv_has ls 3 [(0, .ref (qX 0)), (1, .int xz84), (2, .int xz58)] → W p l e (headSpec wk_c_X11_rowsHad ({ frames := 0, cells := 0, slots := 0, locals := 0 })).room s m ([.ref (qX 0)] : List Value).toArray below meth c s.heap [] 0 0 Q (F0 m 24 ls []) := by
            intro ls xz84  hl
            obtain ⟨xz86, exz86⟩ : ∃ y : Int32, y = xz58 + Int32.ofInt (1) := ⟨_, rfl⟩
            have fxz86 : xz86.toInt = xz58.toInt + (1) := by rw [exz86]; exact fb_addI (y := Int32.ofInt (1)) (by show -2147483648 ≤ xz58.toInt + (1); omega) (by show xz58.toInt + (1) < 2147483648; omega)
            refine lv_iinc (v := xz86) (lv' := [(2, .int xz86), (0, .ref (qX 0)), (1, .int xz84)]) hx hb dX11_rowsHad_24 hl (k := 2) rfl exz86.symm (by decide) rfl (fun ls hl => ?_)
            refine lv_goto (tgt := 4) hx hb dX11_rowsHad_27 (by decide) ?_
            exact ih4 ls xz84 xz86 (by show (2147483647 - xz86.toInt).toNat < n9_4; omega) (by show 0 ≤ xz86.toInt; omega) (lv_sub hl [1, 2, 0] rfl)
          refine lv_if_eq (tgt := 24) hx hb dX11_rowsHad_18 (by decide) (fun cz87 => ?_) (fun cz87 => ?_)
          · skip
            have zz88 : (vL1 0).toInt = (0 : Int) := zi_eq.mp cz87
            exact ct24_kz85 ls xz57   (lv_sub hl [0, 1, 2] rfl)
          · skip
            have zz89 : ¬ (vL1 0).toInt = (0 : Int) := fun h9 => cz87 (zi_eq.mpr h9)
            obtain ⟨xz90, exz90⟩ : ∃ y : Int32, y = xz57 + Int32.ofInt (1) := ⟨_, rfl⟩
            refine lv_iinc (v := xz90) (lv' := [(1, .int xz90), (0, .ref (qX 0)), (2, .int xz58)]) hx hb dX11_rowsHad_21 hl (k := 1) rfl exz90.symm (by decide) rfl (fun ls hl => ?_)
            exact ct24_kz85 ls xz90   (lv_sub hl [1, 0, 2] rfl)
        · skip
          have zz91 : xz58.toInt = (2 : Int) := zi_eq.mp cz66
          refine W.eq (g2 := F0 m 14 ls [.int 2, .ref (qX 3)]) (by rw [cz66]) ?_
          refine va_aldq hx hb hK hP 3 6 rfl rfl (by unfold vp_in; decide) dX11_rowsHad_14 ?_
          refine W.eq (g2 := F0 m 15 ls [.ref (qL2 0)]) rfl ?_
          refine va_get (D := (dC, dI)) (ci := 6) (v := .int (vL2 0)) (C := RX6) (T := TX6) (N := 4) hx hb hts (fun w h => List.mem_cons_of_mem _ (List.mem_append_right _ (List.mem_append_right _ (List.mem_append_left _ h)))) hown hK hP 9 rfl rfl 1 (by decide) (hts (.fieldLink RX11 386 "SagMemory$Slot" "has" "Z") (wl_mem 1 rfl)) (fun _ h9 => h9) rfl dX11_rowsHad_15 ?_
          have ct24_kz97 : ∀ (ls : Array Slot) (xz96 : Int32), lv_has ls 3 [(0, .ref (qX 0)), (1, .int xz96), (2, .int xz58)] → W p l e (headSpec wk_c_X11_rowsHad ({ frames := 0, cells := 0, slots := 0, locals := 0 })).room s m ([.ref (qX 0)] : List Value).toArray below meth c s.heap [] 0 0 Q (F0 m 24 ls []) := by
            intro ls xz96  hl
            obtain ⟨xz98, exz98⟩ : ∃ y : Int32, y = xz58 + Int32.ofInt (1) := ⟨_, rfl⟩
            have fxz98 : xz98.toInt = xz58.toInt + (1) := by rw [exz98]; exact fb_addI (y := Int32.ofInt (1)) (by show -2147483648 ≤ xz58.toInt + (1); omega) (by show xz58.toInt + (1) < 2147483648; omega)
            refine lv_iinc (v := xz98) (lv' := [(2, .int xz98), (0, .ref (qX 0)), (1, .int xz96)]) hx hb dX11_rowsHad_24 hl (k := 2) rfl exz98.symm (by decide) rfl (fun ls hl => ?_)
            refine lv_goto (tgt := 4) hx hb dX11_rowsHad_27 (by decide) ?_
            exact ih4 ls xz96 xz98 (by show (2147483647 - xz98.toInt).toNat < n9_4; omega) (by show 0 ≤ xz98.toInt; omega) (lv_sub hl [1, 2, 0] rfl)
          refine lv_if_eq (tgt := 24) hx hb dX11_rowsHad_18 (by decide) (fun cz99 => ?_) (fun cz99 => ?_)
          · skip
            have zz100 : (vL2 0).toInt = (0 : Int) := zi_eq.mp cz99
            exact ct24_kz97 ls xz57   (lv_sub hl [0, 1, 2] rfl)
          · skip
            have zz101 : ¬ (vL2 0).toInt = (0 : Int) := fun h9 => cz99 (zi_eq.mpr h9)
            obtain ⟨xz102, exz102⟩ : ∃ y : Int32, y = xz57 + Int32.ofInt (1) := ⟨_, rfl⟩
            refine lv_iinc (v := xz102) (lv' := [(1, .int xz102), (0, .ref (qX 0)), (2, .int xz58)]) hx hb dX11_rowsHad_21 hl (k := 1) rfl exz102.symm (by decide) rfl (fun ls hl => ?_)
            exact ct24_kz97 ls xz102   (lv_sub hl [1, 0, 2] rfl)
        · skip
          have zz103 : xz58.toInt = (3 : Int) := zi_eq.mp cz66
          refine W.eq (g2 := F0 m 14 ls [.int 3, .ref (qX 3)]) (by rw [cz66]) ?_
          refine va_aldq hx hb hK hP 3 6 rfl rfl (by unfold vp_in; decide) dX11_rowsHad_14 ?_
          refine W.eq (g2 := F0 m 15 ls [.ref (qL3 0)]) rfl ?_
          refine va_get (D := (dC, dI)) (ci := 6) (v := .int (vL3 0)) (C := RX6) (T := TX6) (N := 4) hx hb hts (fun w h => List.mem_cons_of_mem _ (List.mem_append_right _ (List.mem_append_right _ (List.mem_append_left _ h)))) hown hK hP 11 rfl rfl 1 (by decide) (hts (.fieldLink RX11 386 "SagMemory$Slot" "has" "Z") (wl_mem 1 rfl)) (fun _ h9 => h9) rfl dX11_rowsHad_15 ?_
          have ct24_kz109 : ∀ (ls : Array Slot) (xz108 : Int32), lv_has ls 3 [(0, .ref (qX 0)), (1, .int xz108), (2, .int xz58)] → W p l e (headSpec wk_c_X11_rowsHad ({ frames := 0, cells := 0, slots := 0, locals := 0 })).room s m ([.ref (qX 0)] : List Value).toArray below meth c s.heap [] 0 0 Q (F0 m 24 ls []) := by
            intro ls xz108  hl
            obtain ⟨xz110, exz110⟩ : ∃ y : Int32, y = xz58 + Int32.ofInt (1) := ⟨_, rfl⟩
            have fxz110 : xz110.toInt = xz58.toInt + (1) := by rw [exz110]; exact fb_addI (y := Int32.ofInt (1)) (by show -2147483648 ≤ xz58.toInt + (1); omega) (by show xz58.toInt + (1) < 2147483648; omega)
            refine lv_iinc (v := xz110) (lv' := [(2, .int xz110), (0, .ref (qX 0)), (1, .int xz108)]) hx hb dX11_rowsHad_24 hl (k := 2) rfl exz110.symm (by decide) rfl (fun ls hl => ?_)
            refine lv_goto (tgt := 4) hx hb dX11_rowsHad_27 (by decide) ?_
            exact ih4 ls xz108 xz110 (by show (2147483647 - xz110.toInt).toNat < n9_4; omega) (by show 0 ≤ xz110.toInt; omega) (lv_sub hl [1, 2, 0] rfl)
          refine lv_if_eq (tgt := 24) hx hb dX11_rowsHad_18 (by decide) (fun cz111 => ?_) (fun cz111 => ?_)
          · skip
            have zz112 : (vL3 0).toInt = (0 : Int) := zi_eq.mp cz111
            exact ct24_kz109 ls xz57   (lv_sub hl [0, 1, 2] rfl)
          · skip
            have zz113 : ¬ (vL3 0).toInt = (0 : Int) := fun h9 => cz111 (zi_eq.mpr h9)
            obtain ⟨xz114, exz114⟩ : ∃ y : Int32, y = xz57 + Int32.ofInt (1) := ⟨_, rfl⟩
            refine lv_iinc (v := xz114) (lv' := [(1, .int xz114), (0, .ref (qX 0)), (2, .int xz58)]) hx hb dX11_rowsHad_21 hl (k := 1) rfl exz114.symm (by decide) rfl (fun ls hl => ?_)
            exact ct24_kz109 ls xz114   (lv_sub hl [1, 0, 2] rfl)
  exact lp4_kz59 _ ls (0 : Int32) (0 : Int32) (Nat.lt_succ_self _) (by show 0 ≤ (0 : Int); omega) (lv_sub hl [2, 1, 0] rfl)
def wk_c_X11_firstBroken : List Cond := .code yX11_firstBroken cX11_firstBroken 3 (some .int) :: ([.fieldLink RX11 19 "SagMemory" "told" "LSagMemory$Valley;", .fieldLink RX11 177 "SagMemory$Valley" "carts" "I", .fieldLink RX11 45 "SagMemory" "story" "LSagMemory$Story;", .methodLink RX11 165 yX8_behind, .instanceMethod yX8_behind, .selects RX8 yX8_behind yX8_behind, .initialized RX8, .fieldLink RX11 233 "SagMemory$State" "ruined" "I"] ++ (wsX110 ++ (wsX100 ++ (wk_c_X8_behind ++ (wsX70 ++ [])))))
theorem wkg_c_X11_firstBroken : wk_c_X11_firstBroken.all goodWord = true := by decide +kernel
set_option maxHeartbeats 4000000 in
set_option maxRecDepth 100000 in
theorem c_X11_firstBroken (l : Launch) (dC : Nat → ClassId) (dI : Nat → Nat → Nat) (k : Nat → ClassId) (qX : Nat → Nat) (tapeX : Nat) (actsX : Nat) (nowX : Nat) (trialX : Nat) (attemptX : Nat) (orderSearchX : Nat) (routeSearchX : Nat) (setSearchX : Nat) (probeX : Nat) (slot0X : Nat) (slot1X : Nat) (slot2X : Nat) (slot3X : Nat) (image0X : Nat) (image1X : Nat) (image2X : Nat) (aX : Nat → Nat → Int32) (qV : Nat → Nat) (vV : Nat → Int32) (bV : Nat → Int32) (cV : Nat → Int32) (wV : Nat → Int32) (aV : Nat → Nat → Int32) (eV : Nat → Nat → Int32) (qY : Nat → Nat) (sY : Nat → Nat → Nat) (planY : Nat) (vY : Nat → Nat → Int32) (nY : Nat → Nat → Int32) (aY : Nat → Nat → Nat → Int32) (p1 : Int32) (hbV : Rg 0 3 bV) (hcV : Rg 0 7 cV) (hwV : Rg 0 5 wV) (heV : RgA 0 99 eV) (hnY : ∀ t9, Rg 0 8 (nY t9)) : Met l yX11_firstBroken wk_c_X11_firstBroken ({ frames := 1, cells := 0, slots := 0, locals := 21 }) (va_Pc [.ref (qX 0), .int p1] (fun U => va_P (dC, dI) vwCl (List.flatten [(wSag qX k tapeX (qV 0) actsX nowX trialX (qY 0) attemptX orderSearchX routeSearchX setSearchX probeX slot0X slot1X slot2X slot3X image0X image1X image2X aX), (wValley qV k vV bV cV wV aV eV), (wStoO qY k (qV 0) planY (sY 0 0) (sY 1 0) (sY 2 0) (sY 3 0) (sY 4 0) (sY 5 0) (sY 6 0) (sY 7 0)), (wState (sY 0) k (vY 0) (nY 0) (aY 0)), (wState (sY 1) k (vY 1) (nY 1) (aY 1)), (wState (sY 2) k (vY 2) (nY 2) (aY 2)), (wState (sY 3) k (vY 3) (nY 3) (aY 3)), (wState (sY 4) k (vY 4) (nY 4) (aY 4)), (wState (sY 5) k (vY 5) (nY 5) (aY 5)), (wState (sY 6) k (vY 6) (nY 6) (aY 6)), (wState (sY 7) k (vY 7) (nY 7) (aY 7))]) U.heap ∧ va_K (dC, dI) vwCl (tK k) U)) (vp_Si (fun r : Int32 => True)) 0 0 (fun _ => False) := by
  refine Met.ofW (cc := cX11_firstBroken) (maxL := 3) (ret := (some .int)) (by decide) rfl ?_
  intro p e s m args below meth c s₁ B hml hv
  obtain ⟨rfl, hP, hK⟩ := hv
  have hx := B.exec
  have hb := B.bytes
  have hr := B.returns
  have hts := atoms_spec (ws := wk_c_X11_firstBroken) B.pre
  have hown : s.vm.findClass RX11 = some m.cls := findClass_of_methodNamed B.named
  have hlocks := B.notSynchronized
  have hP : va_P (dC, dI) vwCl (List.flatten [(wSag qX k tapeX (qV 0) actsX nowX trialX (qY 0) attemptX orderSearchX routeSearchX setSearchX probeX slot0X slot1X slot2X slot3X image0X image1X image2X aX), (wValley qV k vV bV cV wV aV eV), (wStoO qY k (qV 0) planY (sY 0 0) (sY 1 0) (sY 2 0) (sY 3 0) (sY 4 0) (sY 5 0) (sY 6 0) (sY 7 0)), (wState (sY 0) k (vY 0) (nY 0) (aY 0)), (wState (sY 1) k (vY 1) (nY 1) (aY 1)), (wState (sY 2) k (vY 2) (nY 2) (aY 2)), (wState (sY 3) k (vY 3) (nY 3) (aY 3)), (wState (sY 4) k (vY 4) (nY 4) (aY 4)), (wState (sY 5) k (vY 5) (nY 5) (aY 5)), (wState (sY 6) k (vY 6) (nY 6) (aY 6)), (wState (sY 7) k (vY 7) (nY 7) (aY 7))]) s.heap := hP
  have hl := lv_entry ([.ref (qX 0), .int p1]) (n := 3) (Nat.le_of_ble_eq_true rfl)
  rw [lg_entry_eq]
  generalize (lg_sl ([.ref (qX 0), .int p1]) ++ List.replicate (3 - (lg_sl ([.ref (qX 0), .int p1])).length) Slot.unset).toArray = ls at hl ⊢
  have hl : lv_has ls 3 [(0, .ref (qX 0)), (1, .int p1)] := hl
  refine w_gen (fun Q hQ => ?_)
  refine lv_iconst (v := 0) hx hb dX11_firstBroken_0 (by decide) ?_
  refine lv_istore_n (lv' := [(2, .int 0), (0, .ref (qX 0)), (1, .int p1)]) hx hb dX11_firstBroken_1 rfl hl (by decide) rfl (fun ls hl => ?_)
  have lp2_kz99 : ∀ (n9_2 : Nat) (ls : Array Slot) (xz98 : Int32), (2147483647 - xz98.toInt).toNat < n9_2 → 0 ≤ xz98.toInt → lv_has ls 3 [(0, .ref (qX 0)), (1, .int p1), (2, .int xz98)] → W p l e (headSpec wk_c_X11_firstBroken ({ frames := 1, cells := 0, slots := 0, locals := 21 })).room s m ([.ref (qX 0), .int p1] : List Value).toArray below meth c s.heap [] 0 0 Q (F0 m 2 ls []) := by
    intro n9_2
    induction n9_2 with
    | zero => intro ls xz98 hm; exact absurd hm (Nat.not_lt_zero _)
    | succ n9_2 ih2 =>
      intro ls xz98 hm2 jz100 hl
      refine lv_iload_n hx hb dX11_firstBroken_2 rfl (lv_at hl 2 rfl) ?_
      refine lv_aload_n hx hb dX11_firstBroken_3 rfl (lv_at hl 0 rfl) ?_
      refine va_get (D := (dC, dI)) (ci := 11) (v := .ref (qV 0)) (C := RX11) (T := TX11) (N := 15) hx hb hts (fun w h => List.mem_cons_of_mem _ (List.mem_append_right _ (List.mem_append_left _ h))) hown hK hP 0 rfl rfl 1 (by decide) (hts (.fieldLink RX11 19 "SagMemory" "told" "LSagMemory$Valley;") (wl_mem 0 rfl)) (fun _ h9 => h9) rfl dX11_firstBroken_4 ?_
      refine va_get (D := (dC, dI)) (ci := 10) (v := .int (cV 0)) (C := RX10) (T := TX10) (N := 16) hx hb hts (fun w h => List.mem_cons_of_mem _ (List.mem_append_right _ (List.mem_append_right _ (List.mem_append_left _ h)))) hown hK hP 5 rfl rfl 12 (by decide) (hts (.fieldLink RX11 177 "SagMemory$Valley" "carts" "I") (wl_mem 1 rfl)) (fun _ h9 => h9) rfl dX11_firstBroken_7 ?_
      have bz101 := hcV 0
      refine lv_icmp_ge (tgt := 37) hx hb dX11_firstBroken_10 (by decide) (fun cz102 => ?_) (fun cz102 => ?_)
      · skip
        have bz103 := fb_rng xz98
        have zz104 : (cV 0).toInt ≤ xz98.toInt := zi_le.mp cz102
        refine lv_iconst (v := (-1)) hx hb dX11_firstBroken_37 (by decide) ?_
        rw [hQ]
        exact W.iret (v := (-1 : Int32)) hx hb hr (fun t ht hW => ⟨(-1 : Int32), rfl, trivial, ht⟩) (fun _ h => absurd h List.not_mem_nil) dX11_firstBroken_38
      · skip
        have bz105 := fb_rng xz98
        have zz106 : ¬ (cV 0).toInt ≤ xz98.toInt := fun h9 => cz102 (zi_le.mpr h9)
        refine lv_aload_n hx hb dX11_firstBroken_13 rfl (lv_at hl 0 rfl) ?_
        refine va_get (D := (dC, dI)) (ci := 11) (v := .ref (qY 0)) (C := RX11) (T := TX11) (N := 15) hx hb hts (fun w h => List.mem_cons_of_mem _ (List.mem_append_right _ (List.mem_append_left _ h))) hown hK hP 0 rfl rfl 5 (by decide) (hts (.fieldLink RX11 45 "SagMemory" "story" "LSagMemory$Story;") (wl_mem 2 rfl)) (fun _ h9 => h9) rfl dX11_firstBroken_14 ?_
        refine lv_iload_n hx hb dX11_firstBroken_17 rfl (lv_at hl 2 rfl) ?_
        have hPc : va_P (dC, dI) vwCl (List.flatten [(wStoO qY k (qV 0) planY (sY 0 0) (sY 1 0) (sY 2 0) (sY 3 0) (sY 4 0) (sY 5 0) (sY 6 0) (sY 7 0)), (wState (sY 0) k (vY 0) (nY 0) (aY 0)), (wState (sY 1) k (vY 1) (nY 1) (aY 1)), (wState (sY 2) k (vY 2) (nY 2) (aY 2)), (wState (sY 3) k (vY 3) (nY 3) (aY 3)), (wState (sY 4) k (vY 4) (nY 4) (aY 4)), (wState (sY 5) k (vY 5) (nY 5) (aY 5)), (wState (sY 6) k (vY 6) (nY 6) (aY 6)), (wState (sY 7) k (vY 7) (nY 7) (aY 7))]) s.heap := wc_subP0 hP [2, 3, 4, 5, 6, 7, 8, 9, 10] rfl
        refine va_csr (va_Run.run (va_runV (As := [.int xz98]) (rest := []) ⟨hx, hb, hml, hown, hts⟩ (c_X8_behind l dC dI k qY sY (qV 0) planY vY nY aY xz98 hnY) (cwV 1 hts (gk_V (wl_mem 3 rfl) (wl_mem 4 rfl) (wl_mem 5 rfl) (wl_mem 6 rfl) (fun w h => List.mem_cons_of_mem _ (List.mem_append_right _ (List.mem_append_right _ (List.mem_append_right _ (List.mem_append_left _ h))))) wkg_c_X8_behind) rfl rfl rfl (by decide +kernel) ⟨Nat.le_of_ble_eq_true rfl, Nat.le_of_ble_eq_true rfl⟩) ⟨fun a U g mk q => by obtain ⟨q0, qP, qK⟩ := q; exact ⟨q0, qP, va_K.moved (u := U) (U := U.calling g mk a) (Vm.Alike.refl U.vm) qK⟩, va_recv hK hPc (ci := 8) (q0 := 0) rfl rfl, fun U hU hW => ⟨rfl, by rw [hU]; exact hPc, va_K.moved hW.alike hK⟩⟩ rfl rfl hl.1 rfl (lv_room (Nat.le_of_ble_eq_true rfl)) dX11_firstBroken_18 ⟨Nat.le_of_ble_eq_true rfl, Nat.le_of_ble_eq_true rfl⟩)) (fun rz108 gz107 => ?_)
        clear hPc
        rcases gz107 with ⟨rfl, cz109⟩ | ⟨rfl, cz110, cz111⟩ | ⟨rfl, cz112, cz113, cz114⟩ | ⟨rfl, cz115, cz116, cz117⟩ | ⟨rfl, cz118, cz119, cz120⟩ | ⟨rfl, cz121, cz122, cz123⟩ | ⟨rfl, cz124, cz125, cz126⟩ | ⟨rfl, cz127, cz128, cz129⟩ | ⟨rfl, cz130, cz131, cz132⟩
        · skip
          have zz133 : xz98.toInt < (0 : Int) := zi_lt.mp cz109
          omega
        · skip
          have zz134 : ¬ xz98.toInt < (0 : Int) := fun h9 => cz110 (zi_lt.mpr h9)
          have zz135 : (7 : Int) ≤ xz98.toInt := zi_le.mp cz111
          omega
        · skip
          have zz136 : ¬ xz98.toInt < (0 : Int) := fun h9 => cz112 (zi_lt.mpr h9)
          have zz137 : ¬ (7 : Int) ≤ xz98.toInt := fun h9 => cz113 (zi_le.mpr h9)
          have zz138 : xz98.toInt = (0 : Int) := zi_eq.mp cz114
          refine W.eq (g2 := F0 m 21 ls [.ref (sY 1 0)]) rfl ?_
          refine va_get (D := (dC, dI)) (ci := 7) (v := .int ((vY 1) 0)) (C := RX7) (T := TX7) (N := 9) hx hb hts (fun w h => List.mem_cons_of_mem _ (List.mem_append_right _ (List.mem_append_right _ (List.mem_append_right _ (List.mem_append_right _ (List.mem_append_left _ h)))))) hown hK hP 26 rfl rfl 1 (by decide) (hts (.fieldLink RX11 233 "SagMemory$State" "ruined" "I") (wl_mem 7 rfl)) (fun _ h9 => h9) rfl dX11_firstBroken_21 ?_
          refine lv_iload_n hx hb dX11_firstBroken_24 rfl (lv_at hl 1 rfl) ?_
          refine lv_iand hx hb dX11_firstBroken_25 ?_
          refine lv_topi (fun xz139 exz139 => ?_)
          refine lv_if_eq (tgt := 31) hx hb dX11_firstBroken_26 (by decide) (fun cz140 => ?_) (fun cz140 => ?_)
          · skip
            have zz141 : xz139.toInt = (0 : Int) := zi_eq.mp cz140
            obtain ⟨xz142, exz142⟩ : ∃ y : Int32, y = xz98 + Int32.ofInt (1) := ⟨_, rfl⟩
            have fxz142 : xz142.toInt = xz98.toInt + (1) := by rw [exz142]; exact fb_addI (y := Int32.ofInt (1)) (by show -2147483648 ≤ xz98.toInt + (1); omega) (by show xz98.toInt + (1) < 2147483648; omega)
            refine lv_iinc (v := xz142) (lv' := [(2, .int xz142), (0, .ref (qX 0)), (1, .int p1)]) hx hb dX11_firstBroken_31 hl (k := 2) rfl exz142.symm (by decide) rfl (fun ls hl => ?_)
            refine lv_goto (tgt := 2) hx hb dX11_firstBroken_34 (by decide) ?_
            exact ih2 ls xz142 (by show (2147483647 - xz142.toInt).toNat < n9_2; omega) (by show 0 ≤ xz142.toInt; omega) (lv_sub hl [1, 2, 0] rfl)
          · skip
            have zz143 : ¬ xz139.toInt = (0 : Int) := fun h9 => cz140 (zi_eq.mpr h9)
            refine lv_iload_n hx hb dX11_firstBroken_29 rfl (lv_at hl 2 rfl) ?_
            rw [hQ]
            exact W.iret (v := xz98) hx hb hr (fun t ht hW => ⟨xz98, rfl, trivial, ht⟩) (fun _ h => absurd h List.not_mem_nil) dX11_firstBroken_30
        · skip
          have zz144 : ¬ xz98.toInt < (0 : Int) := fun h9 => cz115 (zi_lt.mpr h9)
          have zz145 : ¬ (7 : Int) ≤ xz98.toInt := fun h9 => cz116 (zi_le.mpr h9)
          have zz146 : xz98.toInt = (1 : Int) := zi_eq.mp cz117
          refine W.eq (g2 := F0 m 21 ls [.ref (sY 2 0)]) rfl ?_
          refine va_get (D := (dC, dI)) (ci := 7) (v := .int ((vY 2) 0)) (C := RX7) (T := TX7) (N := 9) hx hb hts (fun w h => List.mem_cons_of_mem _ (List.mem_append_right _ (List.mem_append_right _ (List.mem_append_right _ (List.mem_append_right _ (List.mem_append_left _ h)))))) hown hK hP 37 rfl rfl 1 (by decide) (hts (.fieldLink RX11 233 "SagMemory$State" "ruined" "I") (wl_mem 7 rfl)) (fun _ h9 => h9) rfl dX11_firstBroken_21 ?_
          refine lv_iload_n hx hb dX11_firstBroken_24 rfl (lv_at hl 1 rfl) ?_
          refine lv_iand hx hb dX11_firstBroken_25 ?_
          refine lv_topi (fun xz147 exz147 => ?_)
          refine lv_if_eq (tgt := 31) hx hb dX11_firstBroken_26 (by decide) (fun cz148 => ?_) (fun cz148 => ?_)
          · skip
            have zz149 : xz147.toInt = (0 : Int) := zi_eq.mp cz148
            obtain ⟨xz150, exz150⟩ : ∃ y : Int32, y = xz98 + Int32.ofInt (1) := ⟨_, rfl⟩
            have fxz150 : xz150.toInt = xz98.toInt + (1) := by rw [exz150]; exact fb_addI (y := Int32.ofInt (1)) (by show -2147483648 ≤ xz98.toInt + (1); omega) (by show xz98.toInt + (1) < 2147483648; omega)
            refine lv_iinc (v := xz150) (lv' := [(2, .int xz150), (0, .ref (qX 0)), (1, .int p1)]) hx hb dX11_firstBroken_31 hl (k := 2) rfl exz150.symm (by decide) rfl (fun ls hl => ?_)
            refine lv_goto (tgt := 2) hx hb dX11_firstBroken_34 (by decide) ?_
            exact ih2 ls xz150 (by show (2147483647 - xz150.toInt).toNat < n9_2; omega) (by show 0 ≤ xz150.toInt; omega) (lv_sub hl [1, 2, 0] rfl)
          · skip
            have zz151 : ¬ xz147.toInt = (0 : Int) := fun h9 => cz148 (zi_eq.mpr h9)
            refine lv_iload_n hx hb dX11_firstBroken_29 rfl (lv_at hl 2 rfl) ?_
            rw [hQ]
            exact W.iret (v := xz98) hx hb hr (fun t ht hW => ⟨xz98, rfl, trivial, ht⟩) (fun _ h => absurd h List.not_mem_nil) dX11_firstBroken_30
        · skip
          have zz152 : ¬ xz98.toInt < (0 : Int) := fun h9 => cz118 (zi_lt.mpr h9)
          have zz153 : ¬ (7 : Int) ≤ xz98.toInt := fun h9 => cz119 (zi_le.mpr h9)
          have zz154 : xz98.toInt = (2 : Int) := zi_eq.mp cz120
          refine W.eq (g2 := F0 m 21 ls [.ref (sY 3 0)]) rfl ?_
          refine va_get (D := (dC, dI)) (ci := 7) (v := .int ((vY 3) 0)) (C := RX7) (T := TX7) (N := 9) hx hb hts (fun w h => List.mem_cons_of_mem _ (List.mem_append_right _ (List.mem_append_right _ (List.mem_append_right _ (List.mem_append_right _ (List.mem_append_left _ h)))))) hown hK hP 48 rfl rfl 1 (by decide) (hts (.fieldLink RX11 233 "SagMemory$State" "ruined" "I") (wl_mem 7 rfl)) (fun _ h9 => h9) rfl dX11_firstBroken_21 ?_
          refine lv_iload_n hx hb dX11_firstBroken_24 rfl (lv_at hl 1 rfl) ?_
          refine lv_iand hx hb dX11_firstBroken_25 ?_
          refine lv_topi (fun xz155 exz155 => ?_)
          refine lv_if_eq (tgt := 31) hx hb dX11_firstBroken_26 (by decide) (fun cz156 => ?_) (fun cz156 => ?_)
          · skip
            have zz157 : xz155.toInt = (0 : Int) := zi_eq.mp cz156
            obtain ⟨xz158, exz158⟩ : ∃ y : Int32, y = xz98 + Int32.ofInt (1) := ⟨_, rfl⟩
            have fxz158 : xz158.toInt = xz98.toInt + (1) := by rw [exz158]; exact fb_addI (y := Int32.ofInt (1)) (by show -2147483648 ≤ xz98.toInt + (1); omega) (by show xz98.toInt + (1) < 2147483648; omega)
            refine lv_iinc (v := xz158) (lv' := [(2, .int xz158), (0, .ref (qX 0)), (1, .int p1)]) hx hb dX11_firstBroken_31 hl (k := 2) rfl exz158.symm (by decide) rfl (fun ls hl => ?_)
            refine lv_goto (tgt := 2) hx hb dX11_firstBroken_34 (by decide) ?_
            exact ih2 ls xz158 (by show (2147483647 - xz158.toInt).toNat < n9_2; omega) (by show 0 ≤ xz158.toInt; omega) (lv_sub hl [1, 2, 0] rfl)
          · skip
            have zz159 : ¬ xz155.toInt = (0 : Int) := fun h9 => cz156 (zi_eq.mpr h9)
            refine lv_iload_n hx hb dX11_firstBroken_29 rfl (lv_at hl 2 rfl) ?_
            rw [hQ]
            exact W.iret (v := xz98) hx hb hr (fun t ht hW => ⟨xz98, rfl, trivial, ht⟩) (fun _ h => absurd h List.not_mem_nil) dX11_firstBroken_30
        · skip
          have zz160 : ¬ xz98.toInt < (0 : Int) := fun h9 => cz121 (zi_lt.mpr h9)
          have zz161 : ¬ (7 : Int) ≤ xz98.toInt := fun h9 => cz122 (zi_le.mpr h9)
          have zz162 : xz98.toInt = (3 : Int) := zi_eq.mp cz123
          refine W.eq (g2 := F0 m 21 ls [.ref (sY 4 0)]) rfl ?_
          refine va_get (D := (dC, dI)) (ci := 7) (v := .int ((vY 4) 0)) (C := RX7) (T := TX7) (N := 9) hx hb hts (fun w h => List.mem_cons_of_mem _ (List.mem_append_right _ (List.mem_append_right _ (List.mem_append_right _ (List.mem_append_right _ (List.mem_append_left _ h)))))) hown hK hP 59 rfl rfl 1 (by decide) (hts (.fieldLink RX11 233 "SagMemory$State" "ruined" "I") (wl_mem 7 rfl)) (fun _ h9 => h9) rfl dX11_firstBroken_21 ?_
          refine lv_iload_n hx hb dX11_firstBroken_24 rfl (lv_at hl 1 rfl) ?_
          refine lv_iand hx hb dX11_firstBroken_25 ?_
          refine lv_topi (fun xz163 exz163 => ?_)
          refine lv_if_eq (tgt := 31) hx hb dX11_firstBroken_26 (by decide) (fun cz164 => ?_) (fun cz164 => ?_)
          · skip
            have zz165 : xz163.toInt = (0 : Int) := zi_eq.mp cz164
            obtain ⟨xz166, exz166⟩ : ∃ y : Int32, y = xz98 + Int32.ofInt (1) := ⟨_, rfl⟩
            have fxz166 : xz166.toInt = xz98.toInt + (1) := by rw [exz166]; exact fb_addI (y := Int32.ofInt (1)) (by show -2147483648 ≤ xz98.toInt + (1); omega) (by show xz98.toInt + (1) < 2147483648; omega)
            refine lv_iinc (v := xz166) (lv' := [(2, .int xz166), (0, .ref (qX 0)), (1, .int p1)]) hx hb dX11_firstBroken_31 hl (k := 2) rfl exz166.symm (by decide) rfl (fun ls hl => ?_)
            refine lv_goto (tgt := 2) hx hb dX11_firstBroken_34 (by decide) ?_
            exact ih2 ls xz166 (by show (2147483647 - xz166.toInt).toNat < n9_2; omega) (by show 0 ≤ xz166.toInt; omega) (lv_sub hl [1, 2, 0] rfl)
          · skip
            have zz167 : ¬ xz163.toInt = (0 : Int) := fun h9 => cz164 (zi_eq.mpr h9)
            refine lv_iload_n hx hb dX11_firstBroken_29 rfl (lv_at hl 2 rfl) ?_
            rw [hQ]
            exact W.iret (v := xz98) hx hb hr (fun t ht hW => ⟨xz98, rfl, trivial, ht⟩) (fun _ h => absurd h List.not_mem_nil) dX11_firstBroken_30
        · skip
          have zz168 : ¬ xz98.toInt < (0 : Int) := fun h9 => cz124 (zi_lt.mpr h9)
          have zz169 : ¬ (7 : Int) ≤ xz98.toInt := fun h9 => cz125 (zi_le.mpr h9)
          have zz170 : xz98.toInt = (4 : Int) := zi_eq.mp cz126
          refine W.eq (g2 := F0 m 21 ls [.ref (sY 5 0)]) rfl ?_
          refine va_get (D := (dC, dI)) (ci := 7) (v := .int ((vY 5) 0)) (C := RX7) (T := TX7) (N := 9) hx hb hts (fun w h => List.mem_cons_of_mem _ (List.mem_append_right _ (List.mem_append_right _ (List.mem_append_right _ (List.mem_append_right _ (List.mem_append_left _ h)))))) hown hK hP 70 rfl rfl 1 (by decide) (hts (.fieldLink RX11 233 "SagMemory$State" "ruined" "I") (wl_mem 7 rfl)) (fun _ h9 => h9) rfl dX11_firstBroken_21 ?_
          refine lv_iload_n hx hb dX11_firstBroken_24 rfl (lv_at hl 1 rfl) ?_
          refine lv_iand hx hb dX11_firstBroken_25 ?_
          refine lv_topi (fun xz171 exz171 => ?_)
          refine lv_if_eq (tgt := 31) hx hb dX11_firstBroken_26 (by decide) (fun cz172 => ?_) (fun cz172 => ?_)
          · skip
            have zz173 : xz171.toInt = (0 : Int) := zi_eq.mp cz172
            obtain ⟨xz174, exz174⟩ : ∃ y : Int32, y = xz98 + Int32.ofInt (1) := ⟨_, rfl⟩
            have fxz174 : xz174.toInt = xz98.toInt + (1) := by rw [exz174]; exact fb_addI (y := Int32.ofInt (1)) (by show -2147483648 ≤ xz98.toInt + (1); omega) (by show xz98.toInt + (1) < 2147483648; omega)
            refine lv_iinc (v := xz174) (lv' := [(2, .int xz174), (0, .ref (qX 0)), (1, .int p1)]) hx hb dX11_firstBroken_31 hl (k := 2) rfl exz174.symm (by decide) rfl (fun ls hl => ?_)
            refine lv_goto (tgt := 2) hx hb dX11_firstBroken_34 (by decide) ?_
            exact ih2 ls xz174 (by show (2147483647 - xz174.toInt).toNat < n9_2; omega) (by show 0 ≤ xz174.toInt; omega) (lv_sub hl [1, 2, 0] rfl)
          · skip
            have zz175 : ¬ xz171.toInt = (0 : Int) := fun h9 => cz172 (zi_eq.mpr h9)
            refine lv_iload_n hx hb dX11_firstBroken_29 rfl (lv_at hl 2 rfl) ?_
            rw [hQ]
            exact W.iret (v := xz98) hx hb hr (fun t ht hW => ⟨xz98, rfl, trivial, ht⟩) (fun _ h => absurd h List.not_mem_nil) dX11_firstBroken_30
        · skip
          have zz176 : ¬ xz98.toInt < (0 : Int) := fun h9 => cz127 (zi_lt.mpr h9)
          have zz177 : ¬ (7 : Int) ≤ xz98.toInt := fun h9 => cz128 (zi_le.mpr h9)
          have zz178 : xz98.toInt = (5 : Int) := zi_eq.mp cz129
          refine W.eq (g2 := F0 m 21 ls [.ref (sY 6 0)]) rfl ?_
          refine va_get (D := (dC, dI)) (ci := 7) (v := .int ((vY 6) 0)) (C := RX7) (T := TX7) (N := 9) hx hb hts (fun w h => List.mem_cons_of_mem _ (List.mem_append_right _ (List.mem_append_right _ (List.mem_append_right _ (List.mem_append_right _ (List.mem_append_left _ h)))))) hown hK hP 81 rfl rfl 1 (by decide) (hts (.fieldLink RX11 233 "SagMemory$State" "ruined" "I") (wl_mem 7 rfl)) (fun _ h9 => h9) rfl dX11_firstBroken_21 ?_
          refine lv_iload_n hx hb dX11_firstBroken_24 rfl (lv_at hl 1 rfl) ?_
          refine lv_iand hx hb dX11_firstBroken_25 ?_
          refine lv_topi (fun xz179 exz179 => ?_)
          refine lv_if_eq (tgt := 31) hx hb dX11_firstBroken_26 (by decide) (fun cz180 => ?_) (fun cz180 => ?_)
          · skip
            have zz181 : xz179.toInt = (0 : Int) := zi_eq.mp cz180
            obtain ⟨xz182, exz182⟩ : ∃ y : Int32, y = xz98 + Int32.ofInt (1) := ⟨_, rfl⟩
            have fxz182 : xz182.toInt = xz98.toInt + (1) := by rw [exz182]; exact fb_addI (y := Int32.ofInt (1)) (by show -2147483648 ≤ xz98.toInt + (1); omega) (by show xz98.toInt + (1) < 2147483648; omega)
            refine lv_iinc (v := xz182) (lv' := [(2, .int xz182), (0, .ref (qX 0)), (1, .int p1)]) hx hb dX11_firstBroken_31 hl (k := 2) rfl exz182.symm (by decide) rfl (fun ls hl => ?_)
            refine lv_goto (tgt := 2) hx hb dX11_firstBroken_34 (by decide) ?_
            exact ih2 ls xz182 (by show (2147483647 - xz182.toInt).toNat < n9_2; omega) (by show 0 ≤ xz182.toInt; omega) (lv_sub hl [1, 2, 0] rfl)
          · skip
            have zz183 : ¬ xz179.toInt = (0 : Int) := fun h9 => cz180 (zi_eq.mpr h9)
            refine lv_iload_n hx hb dX11_firstBroken_29 rfl (lv_at hl 2 rfl) ?_
            rw [hQ]
            exact W.iret (v := xz98) hx hb hr (fun t ht hW => ⟨xz98, rfl, trivial, ht⟩) (fun _ h => absurd h List.not_mem_nil) dX11_firstBroken_30
        · skip
          have zz184 : ¬ xz98.toInt < (0 : Int) := fun h9 => cz130 (zi_lt.mpr h9)
          have zz185 : ¬ (7 : Int) ≤ xz98.toInt := fun h9 => cz131 (zi_le.mpr h9)
          have zz186 : xz98.toInt = (6 : Int) := zi_eq.mp cz132
          refine W.eq (g2 := F0 m 21 ls [.ref (sY 7 0)]) rfl ?_
          refine va_get (D := (dC, dI)) (ci := 7) (v := .int ((vY 7) 0)) (C := RX7) (T := TX7) (N := 9) hx hb hts (fun w h => List.mem_cons_of_mem _ (List.mem_append_right _ (List.mem_append_right _ (List.mem_append_right _ (List.mem_append_right _ (List.mem_append_left _ h)))))) hown hK hP 92 rfl rfl 1 (by decide) (hts (.fieldLink RX11 233 "SagMemory$State" "ruined" "I") (wl_mem 7 rfl)) (fun _ h9 => h9) rfl dX11_firstBroken_21 ?_
          refine lv_iload_n hx hb dX11_firstBroken_24 rfl (lv_at hl 1 rfl) ?_
          refine lv_iand hx hb dX11_firstBroken_25 ?_
          refine lv_topi (fun xz187 exz187 => ?_)
          refine lv_if_eq (tgt := 31) hx hb dX11_firstBroken_26 (by decide) (fun cz188 => ?_) (fun cz188 => ?_)
          · skip
            have zz189 : xz187.toInt = (0 : Int) := zi_eq.mp cz188
            obtain ⟨xz190, exz190⟩ : ∃ y : Int32, y = xz98 + Int32.ofInt (1) := ⟨_, rfl⟩
            have fxz190 : xz190.toInt = xz98.toInt + (1) := by rw [exz190]; exact fb_addI (y := Int32.ofInt (1)) (by show -2147483648 ≤ xz98.toInt + (1); omega) (by show xz98.toInt + (1) < 2147483648; omega)
            refine lv_iinc (v := xz190) (lv' := [(2, .int xz190), (0, .ref (qX 0)), (1, .int p1)]) hx hb dX11_firstBroken_31 hl (k := 2) rfl exz190.symm (by decide) rfl (fun ls hl => ?_)
            refine lv_goto (tgt := 2) hx hb dX11_firstBroken_34 (by decide) ?_
            exact ih2 ls xz190 (by show (2147483647 - xz190.toInt).toNat < n9_2; omega) (by show 0 ≤ xz190.toInt; omega) (lv_sub hl [1, 2, 0] rfl)
          · skip
            have zz191 : ¬ xz187.toInt = (0 : Int) := fun h9 => cz188 (zi_eq.mpr h9)
            refine lv_iload_n hx hb dX11_firstBroken_29 rfl (lv_at hl 2 rfl) ?_
            rw [hQ]
            exact W.iret (v := xz98) hx hb hr (fun t ht hW => ⟨xz98, rfl, trivial, ht⟩) (fun _ h => absurd h List.not_mem_nil) dX11_firstBroken_30
  exact lp2_kz99 _ ls (0 : Int32) (Nat.lt_succ_self _) (by show 0 ≤ (0 : Int); omega) (lv_sub hl [1, 2, 0] rfl)
def wk_c_X11_depthWith : List Cond := .code yX11_depthWith cX11_depthWith 3 (some .int) :: ([.fieldLink RX11 72 "SagMemory" "probe" "LSagMemory$Memory;", .methodLink RX11 418 yX2_take, .instanceMethod yX2_take, .selects RX2 yX2_take yX2_take, .initialized RX2, .fieldLink RX11 19 "SagMemory" "told" "LSagMemory$Valley;", .fieldLink RX11 354 "SagMemory$Valley" "law" "I", .methodLink RX11 421 yX2_pass, .instanceMethod yX2_pass, .selects RX2 yX2_pass yX2_pass, .methodLink RX11 205 yX2_depth, .instanceMethod yX2_depth, .selects RX2 yX2_depth yX2_depth] ++ (wsX110 ++ (wk_c_X2_take ++ (wsX100 ++ (wk_c_X2_pass ++ (wk_c_X2_depth ++ []))))))
theorem wkg_c_X11_depthWith : wk_c_X11_depthWith.all goodWord = true := by decide +kernel
set_option maxHeartbeats 4000000 in
set_option maxRecDepth 100000 in
theorem c_X11_depthWith (l : Launch) (dC : Nat → ClassId) (dI : Nat → Nat → Nat) (k : Nat → ClassId) (sz : Nat) (qX : Nat → Nat) (tapeX : Nat) (actsX : Nat) (nowX : Nat) (trialX : Nat) (storyX : Nat) (attemptX : Nat) (orderSearchX : Nat) (routeSearchX : Nat) (setSearchX : Nat) (slot0X : Nat) (slot1X : Nat) (slot2X : Nat) (slot3X : Nat) (image0X : Nat) (image1X : Nat) (image2X : Nat) (aX : Nat → Nat → Int32) (qV : Nat → Nat) (vV : Nat → Int32) (bV : Nat → Int32) (cV : Nat → Int32) (wV : Nat → Int32) (aV : Nat → Nat → Int32) (eV : Nat → Nat → Int32) (qM : Nat → Nat) (nM : Nat → Int32) (aM : Nat → Nat → Int32) (qO : Nat → Nat) (nO : Nat → Int32) (aO : Nat → Nat → Int32) (p2 : Int32) (hbV : Rg 0 3 bV) (hcV : Rg 0 7 cV) (hwV : Rg 0 5 wV) (heV : RgA 0 99 eV) (hnM : Rg 0 8 nM) (hnO : Rg 0 8 nO) (hp0 : 0 ≤ p2.toInt ∧ p2.toInt ≤ 99) : Met l yX11_depthWith wk_c_X11_depthWith ({ frames := 1, cells := 0, slots := 0, locals := 27 }) (va_Pc [.ref (qX 0), .ref (qO 0), .int p2] (fun U => U.heap.size = sz ∧ va_P (dC, dI) vwCl (List.flatten [(wMem qM k nM aM)] ++ List.flatten [(wSag qX k tapeX (qV 0) actsX nowX trialX storyX attemptX orderSearchX routeSearchX setSearchX (qM 0) slot0X slot1X slot2X slot3X image0X image1X image2X aX), (wValley qV k vV bV cV wV aV eV), (wMem qO k nO aO)]) U.heap ∧ va_K (dC, dI) vwCl (tK k) U ∧ va_D (fun _ => True) (List.flatten [(wMem qM k nM aM)] ++ List.flatten [(wSag qX k tapeX (qV 0) actsX nowX trialX storyX attemptX orderSearchX routeSearchX setSearchX (qM 0) slot0X slot1X slot2X slot3X image0X image1X image2X aX), (wValley qV k vV bV cV wV aV eV), (wMem qO k nO aO)]))) (va_Qi (fun (r : Int32) (_ : Unit) => True) (fun (_ : Unit) (t : State) => ∃ (nM' : Nat → Int32) (aM' : Nat → Nat → Int32), Rg 0 8 nM' ∧ va_P (dC, dI) vwCl (List.flatten [(wMem qM k nM' aM')] ++ List.flatten [(wSag qX k tapeX (qV 0) actsX nowX trialX storyX attemptX orderSearchX routeSearchX setSearchX (qM 0) slot0X slot1X slot2X slot3X image0X image1X image2X aX), (wValley qV k vV bV cV wV aV eV), (wMem qO k nO aO)]) t.heap) (va_A (List.flatten [(wMem qM k nM aM)] ++ List.flatten [(wSag qX k tapeX (qV 0) actsX nowX trialX storyX attemptX orderSearchX routeSearchX setSearchX (qM 0) slot0X slot1X slot2X slot3X image0X image1X image2X aX), (wValley qV k vV bV cV wV aV eV), (wMem qO k nO aO)]) sz)) 0 0 (va_A (List.flatten [(wMem qM k nM aM)] ++ List.flatten [(wSag qX k tapeX (qV 0) actsX nowX trialX storyX attemptX orderSearchX routeSearchX setSearchX (qM 0) slot0X slot1X slot2X slot3X image0X image1X image2X aX), (wValley qV k vV bV cV wV aV eV), (wMem qO k nO aO)]) sz) := by
  refine Met.ofW (cc := cX11_depthWith) (maxL := 3) (ret := (some .int)) (by decide) rfl ?_
  intro p e s m args below meth c s₁ B hml hv
  obtain ⟨rfl, hsz, hP, hK, hD0⟩ := hv
  have hx := B.exec
  have hb := B.bytes
  have hr := B.returns
  have hts := atoms_spec (ws := wk_c_X11_depthWith) B.pre
  have hown : s.vm.findClass RX11 = some m.cls := findClass_of_methodNamed B.named
  have hlocks := B.notSynchronized
  subst hsz
  have hD := hD0.self (sz := s.heap.size)
  generalize hAe : va_A (List.flatten [(wMem qM k nM aM)] ++ List.flatten [(wSag qX k tapeX (qV 0) actsX nowX trialX storyX attemptX orderSearchX routeSearchX setSearchX (qM 0) slot0X slot1X slot2X slot3X image0X image1X image2X aX), (wValley qV k vV bV cV wV aV eV), (wMem qO k nO aO)]) s.heap.size = A at hD ⊢
  have hA : ∀ q : Nat, s.heap.size ≤ q → A q := fun q h => by rw [← hAe]; exact Or.inr h
  have hS : va_S A s.heap s.heap [] := va_S.rf
  have hP : va_P (dC, dI) vwCl (List.flatten [(wMem qM k nM aM)] ++ List.flatten [(wSag qX k tapeX (qV 0) actsX nowX trialX storyX attemptX orderSearchX routeSearchX setSearchX (qM 0) slot0X slot1X slot2X slot3X image0X image1X image2X aX), (wValley qV k vV bV cV wV aV eV), (wMem qO k nO aO)]) s.heap := hP
  have hl := lv_entry ([.ref (qX 0), .ref (qO 0), .int p2]) (n := 3) (Nat.le_of_ble_eq_true rfl)
  rw [lg_entry_eq]
  generalize (lg_sl ([.ref (qX 0), .ref (qO 0), .int p2]) ++ List.replicate (3 - (lg_sl ([.ref (qX 0), .ref (qO 0), .int p2])).length) Slot.unset).toArray = ls at hl ⊢
  have hl : lv_has ls 3 [(0, .ref (qX 0)), (1, .ref (qO 0)), (2, .int p2)] := hl
  refine w_gen (fun Q hQ => ?_)
  refine lv_aload_n hx hb dX11_depthWith_0 rfl (lv_at hl 0 rfl) ?_
  refine va_get (D := (dC, dI)) (ci := 11) (v := .ref (qM 0)) (C := RX11) (T := TX11) (N := 15) hx hb hts (fun w h => List.mem_cons_of_mem _ (List.mem_append_right _ (List.mem_append_left _ h))) hown hK hP 3 rfl rfl 10 (by decide) (hts (.fieldLink RX11 72 "SagMemory" "probe" "LSagMemory$Memory;") (wl_mem 0 rfl)) (fun _ h9 => h9) rfl dX11_depthWith_1 ?_
  refine lv_aload_n hx hb dX11_depthWith_4 rfl (lv_at hl 1 rfl) ?_
  have hPc := hP.sub (ws' := (List.flatten [(wMem qM k nM aM)] ++ List.flatten [(wMem qO k nO aO)])) [0, 1, 2, 16, 17, 18] rfl
  have hC : [0, 1, 2, 16, 17, 18].map (fun i => (List.flatten [(wMem qM k nM aM)] ++ List.flatten [(wSag qX k tapeX (qV 0) actsX nowX trialX storyX attemptX orderSearchX routeSearchX setSearchX (qM 0) slot0X slot1X slot2X slot3X image0X image1X image2X aX), (wValley qV k vV bV cV wV aV eV), (wMem qO k nO aO)])[i]?) = (List.flatten [(wMem qM k nM aM)] ++ List.flatten [(wMem qO k nO aO)]).map some := rfl
  have hDc := hD.sub [0, 1, 2, 16, 17, 18] (by decide) hC
  have hFc := va_free hD hS hA [0, 1, 2, 16, 17, 18] hC
  refine va_callv (va_runV (As := [.ref (qO 0)]) (rest := []) ⟨hx, hb, hml, hown, hts⟩ (c_X2_take l dC dI k s.heap.size qM nM aM qO nO aO hnM hnO) (cwV 1 hts (gk_V (wl_mem 1 rfl) (wl_mem 2 rfl) (wl_mem 3 rfl) (wl_mem 4 rfl) (fun w h => List.mem_cons_of_mem _ (List.mem_append_right _ (List.mem_append_right _ (List.mem_append_left _ h)))) wkg_c_X2_take) rfl rfl rfl (by decide +kernel) ⟨Nat.le_of_ble_eq_true rfl, Nat.le_of_ble_eq_true rfl⟩) ⟨fun a U g mk q => by obtain ⟨q0, q1, qP, qK, qD⟩ := q; exact ⟨q0, q1, qP, va_K.moved (u := U) (U := U.calling g mk a) (Vm.Alike.refl U.vm) qK, qD⟩, va_recv hK hPc (ci := 2) (q0 := 0) rfl rfl, fun U hU hW => ⟨rfl, by rw [hU], by rw [hU]; exact hPc, va_K.moved hW.alike hK, hDc.weaken (fun _ _ _ _ => trivial)⟩⟩ rfl rfl hl.1 rfl (lv_room (Nat.le_of_ble_eq_true rfl)) dX11_depthWith_5 ⟨Nat.le_of_ble_eq_true rfl, Nat.le_of_ble_eq_true rfl⟩) hS (fun q _ h => hFc q h) hFc (fun u t H1 locs ht hvm gz1 hB hz1 hk1 hS => ?_)
  obtain ⟨nz3, az4, hnz3, hP1⟩ := hB
  rw [ht] at hP1
  obtain ⟨hP, hD⟩ := w_callR hP hD hk1 hP1 [0] rfl rfl (wk_memC [3] rfl) rfl [some 0] rfl rfl
  clear hPc hC hDc hFc hk1 hP1
  generalize H1 = H at hP hS ⊢
  have hP : va_P (dC, dI) vwCl (List.flatten [(wMem qM k nz3 az4)] ++ List.flatten [(wSag qX k tapeX (qV 0) actsX nowX trialX storyX attemptX orderSearchX routeSearchX setSearchX (qM 0) slot0X slot1X slot2X slot3X image0X image1X image2X aX), (wValley qV k vV bV cV wV aV eV), (wMem qO k nO aO)]) H := hP
  have hD : va_D A (List.flatten [(wMem qM k nz3 az4)] ++ List.flatten [(wSag qX k tapeX (qV 0) actsX nowX trialX storyX attemptX orderSearchX routeSearchX setSearchX (qM 0) slot0X slot1X slot2X slot3X image0X image1X image2X aX), (wValley qV k vV bV cV wV aV eV), (wMem qO k nO aO)]) := hD
  refine W.widen (k := 0) (n := 0) (Nat.le_refl 0) (Nat.le_refl 0) ?_
  refine lv_aload_n hx hb dX11_depthWith_8 rfl (lv_at hl 0 rfl) ?_
  refine va_get (D := (dC, dI)) (ci := 11) (v := .ref (qM 0)) (C := RX11) (T := TX11) (N := 15) hx hb hts (fun w h => List.mem_cons_of_mem _ (List.mem_append_right _ (List.mem_append_left _ h))) hown hK hP 3 rfl rfl 10 (by decide) (hts (.fieldLink RX11 72 "SagMemory" "probe" "LSagMemory$Memory;") (wl_mem 0 rfl)) (fun _ h9 => h9) rfl dX11_depthWith_9 ?_
  refine lv_iload_n hx hb dX11_depthWith_12 rfl (lv_at hl 2 rfl) ?_
  refine lv_iconst (v := 0) hx hb dX11_depthWith_13 (by decide) ?_
  refine lv_aload_n hx hb dX11_depthWith_14 rfl (lv_at hl 0 rfl) ?_
  refine va_get (D := (dC, dI)) (ci := 11) (v := .ref (qV 0)) (C := RX11) (T := TX11) (N := 15) hx hb hts (fun w h => List.mem_cons_of_mem _ (List.mem_append_right _ (List.mem_append_left _ h))) hown hK hP 3 rfl rfl 1 (by decide) (hts (.fieldLink RX11 19 "SagMemory" "told" "LSagMemory$Valley;") (wl_mem 5 rfl)) (fun _ h9 => h9) rfl dX11_depthWith_15 ?_
  refine va_get (D := (dC, dI)) (ci := 10) (v := .int (vV 1)) (C := RX10) (T := TX10) (N := 16) hx hb hts (fun w h => List.mem_cons_of_mem _ (List.mem_append_right _ (List.mem_append_right _ (List.mem_append_right _ (List.mem_append_left _ h))))) hown hK hP 8 rfl rfl 8 (by decide) (hts (.fieldLink RX11 354 "SagMemory$Valley" "law" "I") (wl_mem 6 rfl)) (fun _ h9 => h9) rfl dX11_depthWith_18 ?_
  have hPc := hP.sub (ws' := (List.flatten [(wMem qM k nz3 az4)] ++ List.flatten ([] : List va_W))) [0, 1, 2] rfl
  have hC : [0, 1, 2].map (fun i => (List.flatten [(wMem qM k nz3 az4)] ++ List.flatten [(wSag qX k tapeX (qV 0) actsX nowX trialX storyX attemptX orderSearchX routeSearchX setSearchX (qM 0) slot0X slot1X slot2X slot3X image0X image1X image2X aX), (wValley qV k vV bV cV wV aV eV), (wMem qO k nO aO)])[i]?) = (List.flatten [(wMem qM k nz3 az4)] ++ List.flatten ([] : List va_W)).map some := rfl
  have hDc := hD.sub [0, 1, 2] (by decide) hC
  have hFc := va_free hD hS hA [0, 1, 2] hC
  refine va_calli (va_runV (As := [.int p2, .int 0, .int (vV 1)]) (rest := []) ⟨hx, hb, hml, hown, hts⟩ (c_X2_pass l dC dI k H.size qM nz3 az4 p2 (0 : Int32) (vV 1) hnz3 (by show 0 ≤ p2.toInt ∧ p2.toInt ≤ 99; omega)) (cwV 3 hts (gk_V (wl_mem 7 rfl) (wl_mem 8 rfl) (wl_mem 9 rfl) (wl_mem 4 rfl) (fun w h => List.mem_cons_of_mem _ (List.mem_append_right _ (List.mem_append_right _ (List.mem_append_right _ (List.mem_append_right _ (List.mem_append_left _ h)))))) wkg_c_X2_pass) rfl rfl rfl (by decide +kernel) ⟨Nat.le_of_ble_eq_true rfl, Nat.le_of_ble_eq_true rfl⟩) ⟨fun a U g mk q => by obtain ⟨q0, q1, qP, qK, qD⟩ := q; exact ⟨q0, q1, qP, va_K.moved (u := U) (U := U.calling g mk a) (Vm.Alike.refl U.vm) qK, qD⟩, va_recv hK hPc (ci := 2) (q0 := 0) rfl rfl, fun U hU hW => ⟨rfl, by rw [hU], by rw [hU]; exact hPc, va_K.moved hW.alike hK, hDc.weaken (fun _ _ _ _ => trivial)⟩⟩ rfl rfl hl.1 rfl (lv_room (Nat.le_of_ble_eq_true rfl)) dX11_depthWith_21 ⟨Nat.le_of_ble_eq_true rfl, Nat.le_of_ble_eq_true rfl⟩) hS (fun q _ h => hFc q h) hFc (fun rz6 u t H1 locs ht hvm gz5 hB hz1 hk1 hS => ?_)
  obtain ⟨nz7, az8, hnz7, hP1⟩ := hB
  rw [ht] at hP1
  obtain ⟨hP, hD⟩ := w_callR hP hD hk1 hP1 [0] rfl rfl (fun _ h => absurd h List.not_mem_nil) rfl [some 0] rfl rfl
  clear hPc hC hDc hFc hk1 hP1
  generalize H1 = H at hP hS ⊢
  have hP : va_P (dC, dI) vwCl (List.flatten [(wMem qM k nz7 az8)] ++ List.flatten [(wSag qX k tapeX (qV 0) actsX nowX trialX storyX attemptX orderSearchX routeSearchX setSearchX (qM 0) slot0X slot1X slot2X slot3X image0X image1X image2X aX), (wValley qV k vV bV cV wV aV eV), (wMem qO k nO aO)]) H := hP
  have hD : va_D A (List.flatten [(wMem qM k nz7 az8)] ++ List.flatten [(wSag qX k tapeX (qV 0) actsX nowX trialX storyX attemptX orderSearchX routeSearchX setSearchX (qM 0) slot0X slot1X slot2X slot3X image0X image1X image2X aX), (wValley qV k vV bV cV wV aV eV), (wMem qO k nO aO)]) := hD
  refine W.widen (k := 0) (n := 0) (Nat.le_refl 0) (Nat.le_refl 0) ?_
  refine lv_pop hx hb dX11_depthWith_24 rfl ?_
  refine lv_aload_n hx hb dX11_depthWith_25 rfl (lv_at hl 0 rfl) ?_
  refine va_get (D := (dC, dI)) (ci := 11) (v := .ref (qM 0)) (C := RX11) (T := TX11) (N := 15) hx hb hts (fun w h => List.mem_cons_of_mem _ (List.mem_append_right _ (List.mem_append_left _ h))) hown hK hP 3 rfl rfl 10 (by decide) (hts (.fieldLink RX11 72 "SagMemory" "probe" "LSagMemory$Memory;") (wl_mem 0 rfl)) (fun _ h9 => h9) rfl dX11_depthWith_26 ?_
  have hPc := hP.sub (ws' := (List.flatten [(wMem qM k nz7 az8)])) [0, 1, 2] rfl
  refine vp_callSi (va_Run.run (va_runV (As := []) (rest := []) ⟨hx, hb, hml, hown, hts⟩ (c_X2_depth l dC dI k qM nz7 az8 hnz7) (cwV 0 hts (gk_V (wl_mem 10 rfl) (wl_mem 11 rfl) (wl_mem 12 rfl) (wl_mem 4 rfl) (fun w h => List.mem_cons_of_mem _ (List.mem_append_right _ (List.mem_append_right _ (List.mem_append_right _ (List.mem_append_right _ (List.mem_append_right _ (List.mem_append_left _ h))))))) wkg_c_X2_depth) rfl rfl rfl (by decide +kernel) ⟨Nat.le_of_ble_eq_true rfl, Nat.le_of_ble_eq_true rfl⟩) ⟨fun a U g mk q => by obtain ⟨q0, qP, qK⟩ := q; exact ⟨q0, qP, va_K.moved (u := U) (U := U.calling g mk a) (Vm.Alike.refl U.vm) qK⟩, va_recv hK hPc (ci := 2) (q0 := 0) rfl rfl, fun U hU hW => ⟨rfl, by rw [hU]; exact hPc, va_K.moved hW.alike hK⟩⟩ rfl rfl hl.1 rfl (lv_room (Nat.le_of_ble_eq_true rfl)) dX11_depthWith_29 ⟨Nat.le_of_ble_eq_true rfl, Nat.le_of_ble_eq_true rfl⟩)) (fun rz10 gz9 => ?_)
  clear hPc
  rw [hQ]
  exact W.iret (v := rz10) hx hb hr (fun t ht hW => ⟨⟨rz10, (), rfl, trivial, nz7, az8, hnz7, by rw [ht]; exact hP⟩, hS.F ht⟩) hS.2.2 dX11_depthWith_32
def wk_c_X11_renew : List Cond := .code yX11_renew cX11_renew 1 none :: ([.fieldLink RX11 33 "SagMemory" "now" "LSagMemory$Plan;", .fieldLink RX11 19 "SagMemory" "told" "LSagMemory$Valley;", .fieldLink RX11 26 "SagMemory" "acts" "LSagMemory$Acts;", .methodLink RX11 408 yX3_make, .instanceMethod yX3_make, .selects RX3 yX3_make yX3_make, .initialized RX3, .fieldLink RX11 45 "SagMemory" "story" "LSagMemory$Story;", .methodLink RX11 412 yX8_tell, .instanceMethod yX8_tell, .selects RX8 yX8_tell yX8_tell, .initialized RX8, .fieldLink RX11 55 "SagMemory" "orderSearch" "LSagMemory$Search;", .fieldLink RX11 415 "SagMemory$Search" "known" "Z", .fieldLink RX11 59 "SagMemory" "routeSearch" "LSagMemory$Search;"] ++ (wsX110 ++ (wk_c_X3_make ++ (wk_c_X8_tell ++ (wsX40 ++ [])))))
theorem wkg_c_X11_renew : wk_c_X11_renew.all goodWord = true := by decide +kernel
set_option maxHeartbeats 4000000 in
set_option maxRecDepth 100000 in
theorem c_X11_renew (l : Launch) (dC : Nat → ClassId) (dI : Nat → Nat → Nat) (k : Nat → ClassId) (sz : Nat) (qX : Nat → Nat) (tapeX : Nat) (trialX : Nat) (attemptX : Nat) (setSearchX : Nat) (probeX : Nat) (slot0X : Nat) (slot1X : Nat) (slot2X : Nat) (slot3X : Nat) (image0X : Nat) (image1X : Nat) (image2X : Nat) (aX : Nat → Nat → Int32) (qV : Nat → Nat) (vV : Nat → Int32) (bV : Nat → Int32) (cV : Nat → Int32) (wV : Nat → Int32) (aV : Nat → Nat → Int32) (eV : Nat → Nat → Int32) (qA : Nat → Nat) (dA : Nat → Int32) (aA : Nat → Nat → Int32) (qN : Nat → Nat) (vN : Nat → Int32) (aN : Nat → Nat → Int32) (eN : Nat → Nat → Int32) (qY : Nat → Nat) (sY : Nat → Nat → Nat) (vY : Nat → Nat → Int32) (nY : Nat → Nat → Int32) (aY : Nat → Nat → Nat → Int32) (qR : Nat → Nat) (vR : Nat → Int32) (aR : Nat → Nat → Int32) (qU : Nat → Nat) (vU : Nat → Int32) (aU : Nat → Nat → Int32) (hbV : Rg 0 3 bV) (hcV : Rg 0 7 cV) (hwV : Rg 0 5 wV) (heV : RgA 0 99 eV) (hdA : Rg 0 30 dA) (heN : RgA 0 99 eN) (hnY : ∀ t9, Rg 0 8 (nY t9)) : Met l yX11_renew wk_c_X11_renew ({ frames := 4, cells := 0, slots := 0, locals := 152 }) (va_Pc [.ref (qX 0)] (fun U => U.heap.size = sz ∧ va_P (dC, dI) vwCl (List.flatten [(wPlan qN k vN aN eN), (wState (sY 0) k (vY 0) (nY 0) (aY 0)), (wState (sY 1) k (vY 1) (nY 1) (aY 1)), (wState (sY 2) k (vY 2) (nY 2) (aY 2)), (wState (sY 3) k (vY 3) (nY 3) (aY 3)), (wState (sY 4) k (vY 4) (nY 4) (aY 4)), (wState (sY 5) k (vY 5) (nY 5) (aY 5)), (wState (sY 6) k (vY 6) (nY 6) (aY 6)), (wState (sY 7) k (vY 7) (nY 7) (aY 7)), (wSearch qR k vR aR), (wSearch qU k vU aU)] ++ List.flatten [(wSag qX k tapeX (qV 0) (qA 0) (qN 0) trialX (qY 0) attemptX (qR 0) (qU 0) setSearchX probeX slot0X slot1X slot2X slot3X image0X image1X image2X aX), (wValley qV k vV bV cV wV aV eV), (wActs qA k dA aA), (wStoO qY k (qV 0) (qN 0) (sY 0 0) (sY 1 0) (sY 2 0) (sY 3 0) (sY 4 0) (sY 5 0) (sY 6 0) (sY 7 0))]) U.heap ∧ va_K (dC, dI) vwCl (tK k) U ∧ va_D (fun _ => True) (List.flatten [(wPlan qN k vN aN eN), (wState (sY 0) k (vY 0) (nY 0) (aY 0)), (wState (sY 1) k (vY 1) (nY 1) (aY 1)), (wState (sY 2) k (vY 2) (nY 2) (aY 2)), (wState (sY 3) k (vY 3) (nY 3) (aY 3)), (wState (sY 4) k (vY 4) (nY 4) (aY 4)), (wState (sY 5) k (vY 5) (nY 5) (aY 5)), (wState (sY 6) k (vY 6) (nY 6) (aY 6)), (wState (sY 7) k (vY 7) (nY 7) (aY 7)), (wSearch qR k vR aR), (wSearch qU k vU aU)] ++ List.flatten [(wSag qX k tapeX (qV 0) (qA 0) (qN 0) trialX (qY 0) attemptX (qR 0) (qU 0) setSearchX probeX slot0X slot1X slot2X slot3X image0X image1X image2X aX), (wValley qV k vV bV cV wV aV eV), (wActs qA k dA aA), (wStoO qY k (qV 0) (qN 0) (sY 0 0) (sY 1 0) (sY 2 0) (sY 3 0) (sY 4 0) (sY 5 0) (sY 6 0) (sY 7 0))]))) (va_Qv (fun _ : Unit => True) (fun (_ : Unit) (t : State) => ∃ (vN' : Nat → Int32) (aN' : Nat → Nat → Int32) (eN' : Nat → Nat → Int32) (vY' : Nat → Nat → Int32) (nY' : Nat → Nat → Int32) (aY' : Nat → Nat → Nat → Int32) (vR' : Nat → Int32) (aR' : Nat → Nat → Int32) (vU' : Nat → Int32) (aU' : Nat → Nat → Int32), RgA 0 99 eN' ∧ (∀ t9, Rg 0 8 (nY' t9)) ∧ va_P (dC, dI) vwCl (List.flatten [(wPlan qN k vN' aN' eN'), (wState (sY 0) k (vY' 0) (nY' 0) (aY' 0)), (wState (sY 1) k (vY' 1) (nY' 1) (aY' 1)), (wState (sY 2) k (vY' 2) (nY' 2) (aY' 2)), (wState (sY 3) k (vY' 3) (nY' 3) (aY' 3)), (wState (sY 4) k (vY' 4) (nY' 4) (aY' 4)), (wState (sY 5) k (vY' 5) (nY' 5) (aY' 5)), (wState (sY 6) k (vY' 6) (nY' 6) (aY' 6)), (wState (sY 7) k (vY' 7) (nY' 7) (aY' 7)), (wSearch qR k vR' aR'), (wSearch qU k vU' aU')] ++ List.flatten [(wSag qX k tapeX (qV 0) (qA 0) (qN 0) trialX (qY 0) attemptX (qR 0) (qU 0) setSearchX probeX slot0X slot1X slot2X slot3X image0X image1X image2X aX), (wValley qV k vV bV cV wV aV eV), (wActs qA k dA aA), (wStoO qY k (qV 0) (qN 0) (sY 0 0) (sY 1 0) (sY 2 0) (sY 3 0) (sY 4 0) (sY 5 0) (sY 6 0) (sY 7 0))]) t.heap) (va_A (List.flatten [(wPlan qN k vN aN eN), (wState (sY 0) k (vY 0) (nY 0) (aY 0)), (wState (sY 1) k (vY 1) (nY 1) (aY 1)), (wState (sY 2) k (vY 2) (nY 2) (aY 2)), (wState (sY 3) k (vY 3) (nY 3) (aY 3)), (wState (sY 4) k (vY 4) (nY 4) (aY 4)), (wState (sY 5) k (vY 5) (nY 5) (aY 5)), (wState (sY 6) k (vY 6) (nY 6) (aY 6)), (wState (sY 7) k (vY 7) (nY 7) (aY 7)), (wSearch qR k vR aR), (wSearch qU k vU aU)] ++ List.flatten [(wSag qX k tapeX (qV 0) (qA 0) (qN 0) trialX (qY 0) attemptX (qR 0) (qU 0) setSearchX probeX slot0X slot1X slot2X slot3X image0X image1X image2X aX), (wValley qV k vV bV cV wV aV eV), (wActs qA k dA aA), (wStoO qY k (qV 0) (qN 0) (sY 0 0) (sY 1 0) (sY 2 0) (sY 3 0) (sY 4 0) (sY 5 0) (sY 6 0) (sY 7 0))]) sz)) 0 0 (va_A (List.flatten [(wPlan qN k vN aN eN), (wState (sY 0) k (vY 0) (nY 0) (aY 0)), (wState (sY 1) k (vY 1) (nY 1) (aY 1)), (wState (sY 2) k (vY 2) (nY 2) (aY 2)), (wState (sY 3) k (vY 3) (nY 3) (aY 3)), (wState (sY 4) k (vY 4) (nY 4) (aY 4)), (wState (sY 5) k (vY 5) (nY 5) (aY 5)), (wState (sY 6) k (vY 6) (nY 6) (aY 6)), (wState (sY 7) k (vY 7) (nY 7) (aY 7)), (wSearch qR k vR aR), (wSearch qU k vU aU)] ++ List.flatten [(wSag qX k tapeX (qV 0) (qA 0) (qN 0) trialX (qY 0) attemptX (qR 0) (qU 0) setSearchX probeX slot0X slot1X slot2X slot3X image0X image1X image2X aX), (wValley qV k vV bV cV wV aV eV), (wActs qA k dA aA), (wStoO qY k (qV 0) (qN 0) (sY 0 0) (sY 1 0) (sY 2 0) (sY 3 0) (sY 4 0) (sY 5 0) (sY 6 0) (sY 7 0))]) sz) := by
  refine Met.ofW (cc := cX11_renew) (maxL := 1) (ret := none) (by decide) rfl ?_
  intro p e s m args below meth c s₁ B hml hv
  obtain ⟨rfl, hsz, hP, hK, hD0⟩ := hv
  have hx := B.exec
  have hb := B.bytes
  have hr := B.returns
  have hts := atoms_spec (ws := wk_c_X11_renew) B.pre
  have hown : s.vm.findClass RX11 = some m.cls := findClass_of_methodNamed B.named
  have hlocks := B.notSynchronized
  subst hsz
  have hD := hD0.self (sz := s.heap.size)
  generalize hAe : va_A (List.flatten [(wPlan qN k vN aN eN), (wState (sY 0) k (vY 0) (nY 0) (aY 0)), (wState (sY 1) k (vY 1) (nY 1) (aY 1)), (wState (sY 2) k (vY 2) (nY 2) (aY 2)), (wState (sY 3) k (vY 3) (nY 3) (aY 3)), (wState (sY 4) k (vY 4) (nY 4) (aY 4)), (wState (sY 5) k (vY 5) (nY 5) (aY 5)), (wState (sY 6) k (vY 6) (nY 6) (aY 6)), (wState (sY 7) k (vY 7) (nY 7) (aY 7)), (wSearch qR k vR aR), (wSearch qU k vU aU)] ++ List.flatten [(wSag qX k tapeX (qV 0) (qA 0) (qN 0) trialX (qY 0) attemptX (qR 0) (qU 0) setSearchX probeX slot0X slot1X slot2X slot3X image0X image1X image2X aX), (wValley qV k vV bV cV wV aV eV), (wActs qA k dA aA), (wStoO qY k (qV 0) (qN 0) (sY 0 0) (sY 1 0) (sY 2 0) (sY 3 0) (sY 4 0) (sY 5 0) (sY 6 0) (sY 7 0))]) s.heap.size = A at hD ⊢
  have hA : ∀ q : Nat, s.heap.size ≤ q → A q := fun q h => by rw [← hAe]; exact Or.inr h
  have hS : va_S A s.heap s.heap [] := va_S.rf
  have hP : va_P (dC, dI) vwCl (List.flatten [(wPlan qN k vN aN eN), (wState (sY 0) k (vY 0) (nY 0) (aY 0)), (wState (sY 1) k (vY 1) (nY 1) (aY 1)), (wState (sY 2) k (vY 2) (nY 2) (aY 2)), (wState (sY 3) k (vY 3) (nY 3) (aY 3)), (wState (sY 4) k (vY 4) (nY 4) (aY 4)), (wState (sY 5) k (vY 5) (nY 5) (aY 5)), (wState (sY 6) k (vY 6) (nY 6) (aY 6)), (wState (sY 7) k (vY 7) (nY 7) (aY 7)), (wSearch qR k vR aR), (wSearch qU k vU aU)] ++ List.flatten [(wSag qX k tapeX (qV 0) (qA 0) (qN 0) trialX (qY 0) attemptX (qR 0) (qU 0) setSearchX probeX slot0X slot1X slot2X slot3X image0X image1X image2X aX), (wValley qV k vV bV cV wV aV eV), (wActs qA k dA aA), (wStoO qY k (qV 0) (qN 0) (sY 0 0) (sY 1 0) (sY 2 0) (sY 3 0) (sY 4 0) (sY 5 0) (sY 6 0) (sY 7 0))]) s.heap := hP
  have hl := lv_entry ([.ref (qX 0)]) (n := 1) (Nat.le_of_ble_eq_true rfl)
  rw [lg_entry_eq]
  generalize (lg_sl ([.ref (qX 0)]) ++ List.replicate (1 - (lg_sl ([.ref (qX 0)])).length) Slot.unset).toArray = ls at hl ⊢
  have hl : lv_has ls 1 [(0, .ref (qX 0))] := hl
  refine w_gen (fun Q hQ => ?_)
  refine lv_aload_n hx hb dX11_renew_0 rfl (lv_at hl 0 rfl) ?_
  refine va_get (D := (dC, dI)) (ci := 11) (v := .ref (qN 0)) (C := RX11) (T := TX11) (N := 15) hx hb hts (fun w h => List.mem_cons_of_mem _ (List.mem_append_right _ (List.mem_append_left _ h))) hown hK hP 97 rfl rfl 3 (by decide) (hts (.fieldLink RX11 33 "SagMemory" "now" "LSagMemory$Plan;") (wl_mem 0 rfl)) (fun _ h9 => h9) rfl dX11_renew_1 ?_
  refine lv_aload_n hx hb dX11_renew_4 rfl (lv_at hl 0 rfl) ?_
  refine va_get (D := (dC, dI)) (ci := 11) (v := .ref (qV 0)) (C := RX11) (T := TX11) (N := 15) hx hb hts (fun w h => List.mem_cons_of_mem _ (List.mem_append_right _ (List.mem_append_left _ h))) hown hK hP 97 rfl rfl 1 (by decide) (hts (.fieldLink RX11 19 "SagMemory" "told" "LSagMemory$Valley;") (wl_mem 1 rfl)) (fun _ h9 => h9) rfl dX11_renew_5 ?_
  refine lv_aload_n hx hb dX11_renew_8 rfl (lv_at hl 0 rfl) ?_
  refine va_get (D := (dC, dI)) (ci := 11) (v := .ref (qA 0)) (C := RX11) (T := TX11) (N := 15) hx hb hts (fun w h => List.mem_cons_of_mem _ (List.mem_append_right _ (List.mem_append_left _ h))) hown hK hP 97 rfl rfl 2 (by decide) (hts (.fieldLink RX11 26 "SagMemory" "acts" "LSagMemory$Acts;") (wl_mem 2 rfl)) (fun _ h9 => h9) rfl dX11_renew_9 ?_
  have hPc := hP.sub (ws' := (List.flatten [(wPlan qN k vN aN eN)] ++ List.flatten [(wValley qV k vV bV cV wV aV eV), (wActs qA k dA aA)])) [0, 1, 2, 102, 103, 104, 105, 106, 107, 108, 109, 110, 111, 112, 113] rfl
  have hC : [0, 1, 2, 102, 103, 104, 105, 106, 107, 108, 109, 110, 111, 112, 113].map (fun i => (List.flatten [(wPlan qN k vN aN eN), (wState (sY 0) k (vY 0) (nY 0) (aY 0)), (wState (sY 1) k (vY 1) (nY 1) (aY 1)), (wState (sY 2) k (vY 2) (nY 2) (aY 2)), (wState (sY 3) k (vY 3) (nY 3) (aY 3)), (wState (sY 4) k (vY 4) (nY 4) (aY 4)), (wState (sY 5) k (vY 5) (nY 5) (aY 5)), (wState (sY 6) k (vY 6) (nY 6) (aY 6)), (wState (sY 7) k (vY 7) (nY 7) (aY 7)), (wSearch qR k vR aR), (wSearch qU k vU aU)] ++ List.flatten [(wSag qX k tapeX (qV 0) (qA 0) (qN 0) trialX (qY 0) attemptX (qR 0) (qU 0) setSearchX probeX slot0X slot1X slot2X slot3X image0X image1X image2X aX), (wValley qV k vV bV cV wV aV eV), (wActs qA k dA aA), (wStoO qY k (qV 0) (qN 0) (sY 0 0) (sY 1 0) (sY 2 0) (sY 3 0) (sY 4 0) (sY 5 0) (sY 6 0) (sY 7 0))])[i]?) = (List.flatten [(wPlan qN k vN aN eN)] ++ List.flatten [(wValley qV k vV bV cV wV aV eV), (wActs qA k dA aA)]).map some := rfl
  have hDc := hD.sub [0, 1, 2, 102, 103, 104, 105, 106, 107, 108, 109, 110, 111, 112, 113] (by decide) hC
  have hFc := va_free hD hS hA [0, 1, 2, 102, 103, 104, 105, 106, 107, 108, 109, 110, 111, 112, 113] hC
  refine va_callv (va_runV (As := [.ref (qV 0), .ref (qA 0)]) (rest := []) ⟨hx, hb, hml, hown, hts⟩ (c_X3_make l dC dI k s.heap.size qN vN aN eN qV vV bV cV wV aV eV qA dA aA heN hbV hcV hwV heV hdA) (cwV 2 hts (gk_V (wl_mem 3 rfl) (wl_mem 4 rfl) (wl_mem 5 rfl) (wl_mem 6 rfl) (fun w h => List.mem_cons_of_mem _ (List.mem_append_right _ (List.mem_append_right _ (List.mem_append_left _ h)))) wkg_c_X3_make) rfl rfl rfl (by decide +kernel) ⟨Nat.le_of_ble_eq_true rfl, Nat.le_of_ble_eq_true rfl⟩) ⟨fun a U g mk q => by obtain ⟨q0, q1, qP, qK, qD⟩ := q; exact ⟨q0, q1, qP, va_K.moved (u := U) (U := U.calling g mk a) (Vm.Alike.refl U.vm) qK, qD⟩, va_recv hK hPc (ci := 3) (q0 := 0) rfl rfl, fun U hU hW => ⟨rfl, by rw [hU], by rw [hU]; exact hPc, va_K.moved hW.alike hK, hDc.weaken (fun _ _ _ _ => trivial)⟩⟩ rfl rfl hl.1 rfl (lv_room (Nat.le_of_ble_eq_true rfl)) dX11_renew_12 ⟨Nat.le_of_ble_eq_true rfl, Nat.le_of_ble_eq_true rfl⟩) hS (fun q _ h => hFc q h) hFc (fun u t H1 locs ht hvm gz1 hB hz1 hk1 hS => ?_)
  obtain ⟨vz3, az4, ez5, hez5, hP1⟩ := hB
  rw [ht] at hP1
  obtain ⟨hP, hD⟩ := w_callR hP hD hk1 hP1 [0] rfl rfl (wk_memC [12, 13] rfl) rfl [some 0, none, none, none, none, none, none, none, none, none, none] rfl rfl
  clear hPc hC hDc hFc hk1 hP1
  generalize H1 = H at hP hS ⊢
  have hP : va_P (dC, dI) vwCl (List.flatten [(wPlan qN k vz3 az4 ez5), (wState (sY 0) k (vY 0) (nY 0) (aY 0)), (wState (sY 1) k (vY 1) (nY 1) (aY 1)), (wState (sY 2) k (vY 2) (nY 2) (aY 2)), (wState (sY 3) k (vY 3) (nY 3) (aY 3)), (wState (sY 4) k (vY 4) (nY 4) (aY 4)), (wState (sY 5) k (vY 5) (nY 5) (aY 5)), (wState (sY 6) k (vY 6) (nY 6) (aY 6)), (wState (sY 7) k (vY 7) (nY 7) (aY 7)), (wSearch qR k vR aR), (wSearch qU k vU aU)] ++ List.flatten [(wSag qX k tapeX (qV 0) (qA 0) (qN 0) trialX (qY 0) attemptX (qR 0) (qU 0) setSearchX probeX slot0X slot1X slot2X slot3X image0X image1X image2X aX), (wValley qV k vV bV cV wV aV eV), (wActs qA k dA aA), (wStoO qY k (qV 0) (qN 0) (sY 0 0) (sY 1 0) (sY 2 0) (sY 3 0) (sY 4 0) (sY 5 0) (sY 6 0) (sY 7 0))]) H := hP
  have hD : va_D A (List.flatten [(wPlan qN k vz3 az4 ez5), (wState (sY 0) k (vY 0) (nY 0) (aY 0)), (wState (sY 1) k (vY 1) (nY 1) (aY 1)), (wState (sY 2) k (vY 2) (nY 2) (aY 2)), (wState (sY 3) k (vY 3) (nY 3) (aY 3)), (wState (sY 4) k (vY 4) (nY 4) (aY 4)), (wState (sY 5) k (vY 5) (nY 5) (aY 5)), (wState (sY 6) k (vY 6) (nY 6) (aY 6)), (wState (sY 7) k (vY 7) (nY 7) (aY 7)), (wSearch qR k vR aR), (wSearch qU k vU aU)] ++ List.flatten [(wSag qX k tapeX (qV 0) (qA 0) (qN 0) trialX (qY 0) attemptX (qR 0) (qU 0) setSearchX probeX slot0X slot1X slot2X slot3X image0X image1X image2X aX), (wValley qV k vV bV cV wV aV eV), (wActs qA k dA aA), (wStoO qY k (qV 0) (qN 0) (sY 0 0) (sY 1 0) (sY 2 0) (sY 3 0) (sY 4 0) (sY 5 0) (sY 6 0) (sY 7 0))]) := hD
  refine W.widen (k := 0) (n := 0) (Nat.le_refl 0) (Nat.le_refl 0) ?_
  refine lv_aload_n hx hb dX11_renew_15 rfl (lv_at hl 0 rfl) ?_
  refine va_get (D := (dC, dI)) (ci := 11) (v := .ref (qY 0)) (C := RX11) (T := TX11) (N := 15) hx hb hts (fun w h => List.mem_cons_of_mem _ (List.mem_append_right _ (List.mem_append_left _ h))) hown hK hP 97 rfl rfl 5 (by decide) (hts (.fieldLink RX11 45 "SagMemory" "story" "LSagMemory$Story;") (wl_mem 7 rfl)) (fun _ h9 => h9) rfl dX11_renew_16 ?_
  have hPc : va_P (dC, dI) vwCl (List.flatten [(wState (sY 0) k (vY 0) (nY 0) (aY 0)), (wState (sY 1) k (vY 1) (nY 1) (aY 1)), (wState (sY 2) k (vY 2) (nY 2) (aY 2)), (wState (sY 3) k (vY 3) (nY 3) (aY 3)), (wState (sY 4) k (vY 4) (nY 4) (aY 4)), (wState (sY 5) k (vY 5) (nY 5) (aY 5)), (wState (sY 6) k (vY 6) (nY 6) (aY 6)), (wState (sY 7) k (vY 7) (nY 7) (aY 7))] ++ List.flatten [(wStoO qY k (qV 0) (qN 0) (sY 0 0) (sY 1 0) (sY 2 0) (sY 3 0) (sY 4 0) (sY 5 0) (sY 6 0) (sY 7 0)), (wValley qV k vV bV cV wV aV eV), (wPlan qN k vz3 az4 ez5)]) H := wc_subP hP [1, 2, 3, 4, 5, 6, 7, 8, 14, 12, 0] rfl
  have hDc : va_D A (List.flatten [(wState (sY 0) k (vY 0) (nY 0) (aY 0)), (wState (sY 1) k (vY 1) (nY 1) (aY 1)), (wState (sY 2) k (vY 2) (nY 2) (aY 2)), (wState (sY 3) k (vY 3) (nY 3) (aY 3)), (wState (sY 4) k (vY 4) (nY 4) (aY 4)), (wState (sY 5) k (vY 5) (nY 5) (aY 5)), (wState (sY 6) k (vY 6) (nY 6) (aY 6)), (wState (sY 7) k (vY 7) (nY 7) (aY 7))] ++ List.flatten [(wStoO qY k (qV 0) (qN 0) (sY 0 0) (sY 1 0) (sY 2 0) (sY 3 0) (sY 4 0) (sY 5 0) (sY 6 0) (sY 7 0)), (wValley qV k vV bV cV wV aV eV), (wPlan qN k vz3 az4 ez5)]) := wc_subD hD [1, 2, 3, 4, 5, 6, 7, 8, 14, 12, 0] rfl rfl
  have hFc := wc_free hDc hS hA
  refine va_callv (va_runV (As := []) (rest := []) ⟨hx, hb, hml, hown, hts⟩ (c_X8_tell l dC dI k H.size qY sY vY nY aY qV vV bV cV wV aV eV qN vz3 az4 ez5 hnY hbV hcV hwV heV hez5) (cwV 0 hts (gk_V (wl_mem 8 rfl) (wl_mem 9 rfl) (wl_mem 10 rfl) (wl_mem 11 rfl) (fun w h => List.mem_cons_of_mem _ (List.mem_append_right _ (List.mem_append_right _ (List.mem_append_right _ (List.mem_append_left _ h))))) wkg_c_X8_tell) rfl rfl rfl (by decide +kernel) ⟨Nat.le_of_ble_eq_true rfl, Nat.le_of_ble_eq_true rfl⟩) ⟨fun a U g mk q => by obtain ⟨q0, q1, qP, qK, qD⟩ := q; exact ⟨q0, q1, qP, va_K.moved (u := U) (U := U.calling g mk a) (Vm.Alike.refl U.vm) qK, qD⟩, va_recv hK hPc (ci := 8) (q0 := 88) rfl rfl, fun U hU hW => ⟨rfl, by rw [hU], by rw [hU]; exact hPc, va_K.moved hW.alike hK, hDc.weaken (fun _ _ _ _ => trivial)⟩⟩ rfl rfl hl.1 rfl (lv_room (Nat.le_of_ble_eq_true rfl)) dX11_renew_19 ⟨Nat.le_of_ble_eq_true rfl, Nat.le_of_ble_eq_true rfl⟩) hS (fun q _ h => hFc q h) hFc (fun u t H1 locs ht hvm gz6 hB hz1 hk1 hS => ?_)
  obtain ⟨vz8, nz9, az10, hnz9, hP1⟩ := hB
  rw [ht] at hP1
  obtain ⟨hP, hD⟩ := w_callR hP hD hk1 hP1 [1, 2, 3, 4, 5, 6, 7, 8] rfl rfl (wk_memC [14, 12, 0] rfl) rfl [none, some 0, some 1, some 2, some 3, some 4, some 5, some 6, some 7, none, none] rfl rfl
  clear hPc hDc hFc hk1 hP1
  generalize H1 = H at hP hS ⊢
  have hP : va_P (dC, dI) vwCl (List.flatten [(wPlan qN k vz3 az4 ez5), (wState (sY 0) k (vz8 0) (nz9 0) (az10 0)), (wState (sY 1) k (vz8 1) (nz9 1) (az10 1)), (wState (sY 2) k (vz8 2) (nz9 2) (az10 2)), (wState (sY 3) k (vz8 3) (nz9 3) (az10 3)), (wState (sY 4) k (vz8 4) (nz9 4) (az10 4)), (wState (sY 5) k (vz8 5) (nz9 5) (az10 5)), (wState (sY 6) k (vz8 6) (nz9 6) (az10 6)), (wState (sY 7) k (vz8 7) (nz9 7) (az10 7)), (wSearch qR k vR aR), (wSearch qU k vU aU)] ++ List.flatten [(wSag qX k tapeX (qV 0) (qA 0) (qN 0) trialX (qY 0) attemptX (qR 0) (qU 0) setSearchX probeX slot0X slot1X slot2X slot3X image0X image1X image2X aX), (wValley qV k vV bV cV wV aV eV), (wActs qA k dA aA), (wStoO qY k (qV 0) (qN 0) (sY 0 0) (sY 1 0) (sY 2 0) (sY 3 0) (sY 4 0) (sY 5 0) (sY 6 0) (sY 7 0))]) H := hP
  have hD : va_D A (List.flatten [(wPlan qN k vz3 az4 ez5), (wState (sY 0) k (vz8 0) (nz9 0) (az10 0)), (wState (sY 1) k (vz8 1) (nz9 1) (az10 1)), (wState (sY 2) k (vz8 2) (nz9 2) (az10 2)), (wState (sY 3) k (vz8 3) (nz9 3) (az10 3)), (wState (sY 4) k (vz8 4) (nz9 4) (az10 4)), (wState (sY 5) k (vz8 5) (nz9 5) (az10 5)), (wState (sY 6) k (vz8 6) (nz9 6) (az10 6)), (wState (sY 7) k (vz8 7) (nz9 7) (az10 7)), (wSearch qR k vR aR), (wSearch qU k vU aU)] ++ List.flatten [(wSag qX k tapeX (qV 0) (qA 0) (qN 0) trialX (qY 0) attemptX (qR 0) (qU 0) setSearchX probeX slot0X slot1X slot2X slot3X image0X image1X image2X aX), (wValley qV k vV bV cV wV aV eV), (wActs qA k dA aA), (wStoO qY k (qV 0) (qN 0) (sY 0 0) (sY 1 0) (sY 2 0) (sY 3 0) (sY 4 0) (sY 5 0) (sY 6 0) (sY 7 0))]) := hD
  refine W.widen (k := 0) (n := 0) (Nat.le_refl 0) (Nat.le_refl 0) ?_
  refine lv_aload_n hx hb dX11_renew_22 rfl (lv_at hl 0 rfl) ?_
  refine va_get (D := (dC, dI)) (ci := 11) (v := .ref (qR 0)) (C := RX11) (T := TX11) (N := 15) hx hb hts (fun w h => List.mem_cons_of_mem _ (List.mem_append_right _ (List.mem_append_left _ h))) hown hK hP 97 rfl rfl 7 (by decide) (hts (.fieldLink RX11 55 "SagMemory" "orderSearch" "LSagMemory$Search;") (wl_mem 12 rfl)) (fun _ h9 => h9) rfl dX11_renew_23 ?_
  refine lv_iconst (v := 0) hx hb dX11_renew_26 (by decide) ?_
  refine va_put (D := (dC, dI)) (ci := 4) (v := .int 0) (ty := .boolean) (C := RX4) (T := TX4) (N := 6) hx hb hts (fun w h => List.mem_cons_of_mem _ (List.mem_append_right _ (List.mem_append_right _ (List.mem_append_right _ (List.mem_append_right _ (List.mem_append_left _ h)))))) tyX4 tyX4_ok nmX4 hown hK hP hD hS 91 rfl rfl 2 (by decide) (hts (.fieldLink RX11 415 "SagMemory$Search" "known" "Z") (wl_mem 13 rfl)) (fun _ h9 => h9) rfl (by decide +kernel) rfl rfl (Nat.le_of_ble_eq_true rfl) dX11_renew_27 (fun H locs hP hD hS => ?_)
  have hP : va_P (dC, dI) vwCl (List.flatten [(wPlan qN k vz3 az4 ez5), (wState (sY 0) k (vz8 0) (nz9 0) (az10 0)), (wState (sY 1) k (vz8 1) (nz9 1) (az10 1)), (wState (sY 2) k (vz8 2) (nz9 2) (az10 2)), (wState (sY 3) k (vz8 3) (nz9 3) (az10 3)), (wState (sY 4) k (vz8 4) (nz9 4) (az10 4)), (wState (sY 5) k (vz8 5) (nz9 5) (az10 5)), (wState (sY 6) k (vz8 6) (nz9 6) (az10 6)), (wState (sY 7) k (vz8 7) (nz9 7) (az10 7)), (wSearch qR k (va_up vR 0 (0 : Int32)) aR), (wSearch qU k vU aU)] ++ List.flatten [(wSag qX k tapeX (qV 0) (qA 0) (qN 0) trialX (qY 0) attemptX (qR 0) (qU 0) setSearchX probeX slot0X slot1X slot2X slot3X image0X image1X image2X aX), (wValley qV k vV bV cV wV aV eV), (wActs qA k dA aA), (wStoO qY k (qV 0) (qN 0) (sY 0 0) (sY 1 0) (sY 2 0) (sY 3 0) (sY 4 0) (sY 5 0) (sY 6 0) (sY 7 0))]) H := hP
  have hD : va_D A (List.flatten [(wPlan qN k vz3 az4 ez5), (wState (sY 0) k (vz8 0) (nz9 0) (az10 0)), (wState (sY 1) k (vz8 1) (nz9 1) (az10 1)), (wState (sY 2) k (vz8 2) (nz9 2) (az10 2)), (wState (sY 3) k (vz8 3) (nz9 3) (az10 3)), (wState (sY 4) k (vz8 4) (nz9 4) (az10 4)), (wState (sY 5) k (vz8 5) (nz9 5) (az10 5)), (wState (sY 6) k (vz8 6) (nz9 6) (az10 6)), (wState (sY 7) k (vz8 7) (nz9 7) (az10 7)), (wSearch qR k (va_up vR 0 (0 : Int32)) aR), (wSearch qU k vU aU)] ++ List.flatten [(wSag qX k tapeX (qV 0) (qA 0) (qN 0) trialX (qY 0) attemptX (qR 0) (qU 0) setSearchX probeX slot0X slot1X slot2X slot3X image0X image1X image2X aX), (wValley qV k vV bV cV wV aV eV), (wActs qA k dA aA), (wStoO qY k (qV 0) (qN 0) (sY 0 0) (sY 1 0) (sY 2 0) (sY 3 0) (sY 4 0) (sY 5 0) (sY 6 0) (sY 7 0))]) := hD
  refine lv_aload_n hx hb dX11_renew_30 rfl (lv_at hl 0 rfl) ?_
  refine va_get (D := (dC, dI)) (ci := 11) (v := .ref (qU 0)) (C := RX11) (T := TX11) (N := 15) hx hb hts (fun w h => List.mem_cons_of_mem _ (List.mem_append_right _ (List.mem_append_left _ h))) hown hK hP 97 rfl rfl 8 (by decide) (hts (.fieldLink RX11 59 "SagMemory" "routeSearch" "LSagMemory$Search;") (wl_mem 14 rfl)) (fun _ h9 => h9) rfl dX11_renew_31 ?_
  refine lv_iconst (v := 0) hx hb dX11_renew_34 (by decide) ?_
  refine va_put (D := (dC, dI)) (ci := 4) (v := .int 0) (ty := .boolean) (C := RX4) (T := TX4) (N := 6) hx hb hts (fun w h => List.mem_cons_of_mem _ (List.mem_append_right _ (List.mem_append_right _ (List.mem_append_right _ (List.mem_append_right _ (List.mem_append_left _ h)))))) tyX4 tyX4_ok nmX4 hown hK hP hD hS 94 rfl rfl 2 (by decide) (hts (.fieldLink RX11 415 "SagMemory$Search" "known" "Z") (wl_mem 13 rfl)) (fun _ h9 => h9) rfl (by decide +kernel) rfl rfl (Nat.le_of_ble_eq_true rfl) dX11_renew_35 (fun H locs hP hD hS => ?_)
  have hP : va_P (dC, dI) vwCl (List.flatten [(wPlan qN k vz3 az4 ez5), (wState (sY 0) k (vz8 0) (nz9 0) (az10 0)), (wState (sY 1) k (vz8 1) (nz9 1) (az10 1)), (wState (sY 2) k (vz8 2) (nz9 2) (az10 2)), (wState (sY 3) k (vz8 3) (nz9 3) (az10 3)), (wState (sY 4) k (vz8 4) (nz9 4) (az10 4)), (wState (sY 5) k (vz8 5) (nz9 5) (az10 5)), (wState (sY 6) k (vz8 6) (nz9 6) (az10 6)), (wState (sY 7) k (vz8 7) (nz9 7) (az10 7)), (wSearch qR k (va_up vR 0 (0 : Int32)) aR), (wSearch qU k (va_up vU 0 (0 : Int32)) aU)] ++ List.flatten [(wSag qX k tapeX (qV 0) (qA 0) (qN 0) trialX (qY 0) attemptX (qR 0) (qU 0) setSearchX probeX slot0X slot1X slot2X slot3X image0X image1X image2X aX), (wValley qV k vV bV cV wV aV eV), (wActs qA k dA aA), (wStoO qY k (qV 0) (qN 0) (sY 0 0) (sY 1 0) (sY 2 0) (sY 3 0) (sY 4 0) (sY 5 0) (sY 6 0) (sY 7 0))]) H := hP
  have hD : va_D A (List.flatten [(wPlan qN k vz3 az4 ez5), (wState (sY 0) k (vz8 0) (nz9 0) (az10 0)), (wState (sY 1) k (vz8 1) (nz9 1) (az10 1)), (wState (sY 2) k (vz8 2) (nz9 2) (az10 2)), (wState (sY 3) k (vz8 3) (nz9 3) (az10 3)), (wState (sY 4) k (vz8 4) (nz9 4) (az10 4)), (wState (sY 5) k (vz8 5) (nz9 5) (az10 5)), (wState (sY 6) k (vz8 6) (nz9 6) (az10 6)), (wState (sY 7) k (vz8 7) (nz9 7) (az10 7)), (wSearch qR k (va_up vR 0 (0 : Int32)) aR), (wSearch qU k (va_up vU 0 (0 : Int32)) aU)] ++ List.flatten [(wSag qX k tapeX (qV 0) (qA 0) (qN 0) trialX (qY 0) attemptX (qR 0) (qU 0) setSearchX probeX slot0X slot1X slot2X slot3X image0X image1X image2X aX), (wValley qV k vV bV cV wV aV eV), (wActs qA k dA aA), (wStoO qY k (qV 0) (qN 0) (sY 0 0) (sY 1 0) (sY 2 0) (sY 3 0) (sY 4 0) (sY 5 0) (sY 6 0) (sY 7 0))]) := hD
  rw [hQ]
  exact W.vret hx hb hr (fun t ht hW => ⟨⟨(), rfl, trivial, vz3, az4, ez5, vz8, nz9, az10, (va_up vR 0 (0 : Int32)), aR, (va_up vU 0 (0 : Int32)), aU, hez5, hnz9, by rw [ht]; exact hP⟩, hS.F ht⟩) hS.2.2 dX11_renew_38
def wk_c_X11_seekOrders : List Cond := .code yX11_seekOrders cX11_seekOrders 1 none :: ([.fieldLink RX11 55 "SagMemory" "orderSearch" "LSagMemory$Search;", .fieldLink RX11 415 "SagMemory$Search" "known" "Z", .fieldLink RX11 37 "SagMemory" "trial" "LSagMemory$Plan;", .fieldLink RX11 33 "SagMemory" "now" "LSagMemory$Plan;", .methodLink RX11 425 yX3_take, .instanceMethod yX3_take, .selects RX3 yX3_take yX3_take, .initialized RX3, .fieldLink RX11 49 "SagMemory" "attempt" "LSagMemory$Story;", .methodLink RX11 428 yX4_tryOrders, .instanceMethod yX4_tryOrders, .selects RX4 yX4_tryOrders yX4_tryOrders, .initialized RX4] ++ (wsX110 ++ (wsX40 ++ (wk_c_X3_take ++ (wk_c_X4_tryOrders ++ [])))))
theorem wkg_c_X11_seekOrders : wk_c_X11_seekOrders.all goodWord = true := by decide +kernel
set_option maxHeartbeats 4000000 in
set_option maxRecDepth 100000 in
theorem c_X11_seekOrders (l : Launch) (dC : Nat → ClassId) (dI : Nat → Nat → Nat) (k : Nat → ClassId) (sz : Nat) (qX : Nat → Nat) (tapeX : Nat) (actsX : Nat) (storyX : Nat) (routeSearchX : Nat) (setSearchX : Nat) (probeX : Nat) (slot0X : Nat) (slot1X : Nat) (slot2X : Nat) (slot3X : Nat) (image0X : Nat) (image1X : Nat) (image2X : Nat) (aX : Nat → Nat → Int32) (qV : Nat → Nat) (vV : Nat → Int32) (bV : Nat → Int32) (cV : Nat → Int32) (wV : Nat → Int32) (aV : Nat → Nat → Int32) (eV : Nat → Nat → Int32) (qN : Nat → Nat) (vN : Nat → Int32) (aN : Nat → Nat → Int32) (eN : Nat → Nat → Int32) (qP : Nat → Nat) (vP : Nat → Int32) (aP : Nat → Nat → Int32) (eP : Nat → Nat → Int32) (qZ : Nat → Nat) (sZ : Nat → Nat → Nat) (vZ : Nat → Nat → Int32) (nZ : Nat → Nat → Int32) (aZ : Nat → Nat → Nat → Int32) (qR : Nat → Nat) (vR : Nat → Int32) (aR : Nat → Nat → Int32) (hbV : Rg 0 3 bV) (hcV : Rg 0 7 cV) (hwV : Rg 0 5 wV) (heV : RgA 0 99 eV) (heN : RgA 0 99 eN) (heP : RgA 0 99 eP) (hnZ : ∀ t9, Rg 0 8 (nZ t9)) : Met l yX11_seekOrders wk_c_X11_seekOrders ({ frames := 4, cells := 0, slots := 0, locals := 156 }) (va_Pc [.ref (qX 0)] (fun U => U.heap.size = sz ∧ va_P (dC, dI) vwCl (List.flatten [(wPlan qP k vP aP eP), (wState (sZ 0) k (vZ 0) (nZ 0) (aZ 0)), (wState (sZ 1) k (vZ 1) (nZ 1) (aZ 1)), (wState (sZ 2) k (vZ 2) (nZ 2) (aZ 2)), (wState (sZ 3) k (vZ 3) (nZ 3) (aZ 3)), (wState (sZ 4) k (vZ 4) (nZ 4) (aZ 4)), (wState (sZ 5) k (vZ 5) (nZ 5) (aZ 5)), (wState (sZ 6) k (vZ 6) (nZ 6) (aZ 6)), (wState (sZ 7) k (vZ 7) (nZ 7) (aZ 7)), (wSearch qR k vR aR)] ++ List.flatten [(wSag qX k tapeX (qV 0) actsX (qN 0) (qP 0) storyX (qZ 0) (qR 0) routeSearchX setSearchX probeX slot0X slot1X slot2X slot3X image0X image1X image2X aX), (wValley qV k vV bV cV wV aV eV), (wPlan qN k vN aN eN), (wStoO qZ k (qV 0) (qP 0) (sZ 0 0) (sZ 1 0) (sZ 2 0) (sZ 3 0) (sZ 4 0) (sZ 5 0) (sZ 6 0) (sZ 7 0))]) U.heap ∧ va_K (dC, dI) vwCl (tK k) U ∧ va_D (fun _ => True) (List.flatten [(wPlan qP k vP aP eP), (wState (sZ 0) k (vZ 0) (nZ 0) (aZ 0)), (wState (sZ 1) k (vZ 1) (nZ 1) (aZ 1)), (wState (sZ 2) k (vZ 2) (nZ 2) (aZ 2)), (wState (sZ 3) k (vZ 3) (nZ 3) (aZ 3)), (wState (sZ 4) k (vZ 4) (nZ 4) (aZ 4)), (wState (sZ 5) k (vZ 5) (nZ 5) (aZ 5)), (wState (sZ 6) k (vZ 6) (nZ 6) (aZ 6)), (wState (sZ 7) k (vZ 7) (nZ 7) (aZ 7)), (wSearch qR k vR aR)] ++ List.flatten [(wSag qX k tapeX (qV 0) actsX (qN 0) (qP 0) storyX (qZ 0) (qR 0) routeSearchX setSearchX probeX slot0X slot1X slot2X slot3X image0X image1X image2X aX), (wValley qV k vV bV cV wV aV eV), (wPlan qN k vN aN eN), (wStoO qZ k (qV 0) (qP 0) (sZ 0 0) (sZ 1 0) (sZ 2 0) (sZ 3 0) (sZ 4 0) (sZ 5 0) (sZ 6 0) (sZ 7 0))]))) (va_Qv (fun _ : Unit => True) (fun (_ : Unit) (t : State) => ∃ (vP' : Nat → Int32) (aP' : Nat → Nat → Int32) (eP' : Nat → Nat → Int32) (vZ' : Nat → Nat → Int32) (nZ' : Nat → Nat → Int32) (aZ' : Nat → Nat → Nat → Int32) (vR' : Nat → Int32) (aR' : Nat → Nat → Int32), RgA 0 99 eP' ∧ (∀ t9, Rg 0 8 (nZ' t9)) ∧ va_P (dC, dI) vwCl (List.flatten [(wPlan qP k vP' aP' eP'), (wState (sZ 0) k (vZ' 0) (nZ' 0) (aZ' 0)), (wState (sZ 1) k (vZ' 1) (nZ' 1) (aZ' 1)), (wState (sZ 2) k (vZ' 2) (nZ' 2) (aZ' 2)), (wState (sZ 3) k (vZ' 3) (nZ' 3) (aZ' 3)), (wState (sZ 4) k (vZ' 4) (nZ' 4) (aZ' 4)), (wState (sZ 5) k (vZ' 5) (nZ' 5) (aZ' 5)), (wState (sZ 6) k (vZ' 6) (nZ' 6) (aZ' 6)), (wState (sZ 7) k (vZ' 7) (nZ' 7) (aZ' 7)), (wSearch qR k vR' aR')] ++ List.flatten [(wSag qX k tapeX (qV 0) actsX (qN 0) (qP 0) storyX (qZ 0) (qR 0) routeSearchX setSearchX probeX slot0X slot1X slot2X slot3X image0X image1X image2X aX), (wValley qV k vV bV cV wV aV eV), (wPlan qN k vN aN eN), (wStoO qZ k (qV 0) (qP 0) (sZ 0 0) (sZ 1 0) (sZ 2 0) (sZ 3 0) (sZ 4 0) (sZ 5 0) (sZ 6 0) (sZ 7 0))]) t.heap) (va_A (List.flatten [(wPlan qP k vP aP eP), (wState (sZ 0) k (vZ 0) (nZ 0) (aZ 0)), (wState (sZ 1) k (vZ 1) (nZ 1) (aZ 1)), (wState (sZ 2) k (vZ 2) (nZ 2) (aZ 2)), (wState (sZ 3) k (vZ 3) (nZ 3) (aZ 3)), (wState (sZ 4) k (vZ 4) (nZ 4) (aZ 4)), (wState (sZ 5) k (vZ 5) (nZ 5) (aZ 5)), (wState (sZ 6) k (vZ 6) (nZ 6) (aZ 6)), (wState (sZ 7) k (vZ 7) (nZ 7) (aZ 7)), (wSearch qR k vR aR)] ++ List.flatten [(wSag qX k tapeX (qV 0) actsX (qN 0) (qP 0) storyX (qZ 0) (qR 0) routeSearchX setSearchX probeX slot0X slot1X slot2X slot3X image0X image1X image2X aX), (wValley qV k vV bV cV wV aV eV), (wPlan qN k vN aN eN), (wStoO qZ k (qV 0) (qP 0) (sZ 0 0) (sZ 1 0) (sZ 2 0) (sZ 3 0) (sZ 4 0) (sZ 5 0) (sZ 6 0) (sZ 7 0))]) sz)) 0 0 (va_A (List.flatten [(wPlan qP k vP aP eP), (wState (sZ 0) k (vZ 0) (nZ 0) (aZ 0)), (wState (sZ 1) k (vZ 1) (nZ 1) (aZ 1)), (wState (sZ 2) k (vZ 2) (nZ 2) (aZ 2)), (wState (sZ 3) k (vZ 3) (nZ 3) (aZ 3)), (wState (sZ 4) k (vZ 4) (nZ 4) (aZ 4)), (wState (sZ 5) k (vZ 5) (nZ 5) (aZ 5)), (wState (sZ 6) k (vZ 6) (nZ 6) (aZ 6)), (wState (sZ 7) k (vZ 7) (nZ 7) (aZ 7)), (wSearch qR k vR aR)] ++ List.flatten [(wSag qX k tapeX (qV 0) actsX (qN 0) (qP 0) storyX (qZ 0) (qR 0) routeSearchX setSearchX probeX slot0X slot1X slot2X slot3X image0X image1X image2X aX), (wValley qV k vV bV cV wV aV eV), (wPlan qN k vN aN eN), (wStoO qZ k (qV 0) (qP 0) (sZ 0 0) (sZ 1 0) (sZ 2 0) (sZ 3 0) (sZ 4 0) (sZ 5 0) (sZ 6 0) (sZ 7 0))]) sz) := by
  refine Met.ofW (cc := cX11_seekOrders) (maxL := 1) (ret := none) (by decide) rfl ?_
  intro p e s m args below meth c s₁ B hml hv
  obtain ⟨rfl, hsz, hP, hK, hD0⟩ := hv
  have hx := B.exec
  have hb := B.bytes
  have hr := B.returns
  have hts := atoms_spec (ws := wk_c_X11_seekOrders) B.pre
  have hown : s.vm.findClass RX11 = some m.cls := findClass_of_methodNamed B.named
  have hlocks := B.notSynchronized
  subst hsz
  have hD := hD0.self (sz := s.heap.size)
  generalize hAe : va_A (List.flatten [(wPlan qP k vP aP eP), (wState (sZ 0) k (vZ 0) (nZ 0) (aZ 0)), (wState (sZ 1) k (vZ 1) (nZ 1) (aZ 1)), (wState (sZ 2) k (vZ 2) (nZ 2) (aZ 2)), (wState (sZ 3) k (vZ 3) (nZ 3) (aZ 3)), (wState (sZ 4) k (vZ 4) (nZ 4) (aZ 4)), (wState (sZ 5) k (vZ 5) (nZ 5) (aZ 5)), (wState (sZ 6) k (vZ 6) (nZ 6) (aZ 6)), (wState (sZ 7) k (vZ 7) (nZ 7) (aZ 7)), (wSearch qR k vR aR)] ++ List.flatten [(wSag qX k tapeX (qV 0) actsX (qN 0) (qP 0) storyX (qZ 0) (qR 0) routeSearchX setSearchX probeX slot0X slot1X slot2X slot3X image0X image1X image2X aX), (wValley qV k vV bV cV wV aV eV), (wPlan qN k vN aN eN), (wStoO qZ k (qV 0) (qP 0) (sZ 0 0) (sZ 1 0) (sZ 2 0) (sZ 3 0) (sZ 4 0) (sZ 5 0) (sZ 6 0) (sZ 7 0))]) s.heap.size = A at hD ⊢
  have hA : ∀ q : Nat, s.heap.size ≤ q → A q := fun q h => by rw [← hAe]; exact Or.inr h
  have hS : va_S A s.heap s.heap [] := va_S.rf
  have hP : va_P (dC, dI) vwCl (List.flatten [(wPlan qP k vP aP eP), (wState (sZ 0) k (vZ 0) (nZ 0) (aZ 0)), (wState (sZ 1) k (vZ 1) (nZ 1) (aZ 1)), (wState (sZ 2) k (vZ 2) (nZ 2) (aZ 2)), (wState (sZ 3) k (vZ 3) (nZ 3) (aZ 3)), (wState (sZ 4) k (vZ 4) (nZ 4) (aZ 4)), (wState (sZ 5) k (vZ 5) (nZ 5) (aZ 5)), (wState (sZ 6) k (vZ 6) (nZ 6) (aZ 6)), (wState (sZ 7) k (vZ 7) (nZ 7) (aZ 7)), (wSearch qR k vR aR)] ++ List.flatten [(wSag qX k tapeX (qV 0) actsX (qN 0) (qP 0) storyX (qZ 0) (qR 0) routeSearchX setSearchX probeX slot0X slot1X slot2X slot3X image0X image1X image2X aX), (wValley qV k vV bV cV wV aV eV), (wPlan qN k vN aN eN), (wStoO qZ k (qV 0) (qP 0) (sZ 0 0) (sZ 1 0) (sZ 2 0) (sZ 3 0) (sZ 4 0) (sZ 5 0) (sZ 6 0) (sZ 7 0))]) s.heap := hP
  have hl := lv_entry ([.ref (qX 0)]) (n := 1) (Nat.le_of_ble_eq_true rfl)
  rw [lg_entry_eq]
  generalize (lg_sl ([.ref (qX 0)]) ++ List.replicate (1 - (lg_sl ([.ref (qX 0)])).length) Slot.unset).toArray = ls at hl ⊢
  have hl : lv_has ls 1 [(0, .ref (qX 0))] := hl
  refine w_gen (fun Q hQ => ?_)
  refine lv_aload_n hx hb dX11_seekOrders_0 rfl (lv_at hl 0 rfl) ?_
  refine va_get (D := (dC, dI)) (ci := 11) (v := .ref (qR 0)) (C := RX11) (T := TX11) (N := 15) hx hb hts (fun w h => List.mem_cons_of_mem _ (List.mem_append_right _ (List.mem_append_left _ h))) hown hK hP 94 rfl rfl 7 (by decide) (hts (.fieldLink RX11 55 "SagMemory" "orderSearch" "LSagMemory$Search;") (wl_mem 0 rfl)) (fun _ h9 => h9) rfl dX11_seekOrders_1 ?_
  refine va_get (D := (dC, dI)) (ci := 4) (v := .int (vR 0)) (C := RX4) (T := TX4) (N := 6) hx hb hts (fun w h => List.mem_cons_of_mem _ (List.mem_append_right _ (List.mem_append_right _ (List.mem_append_left _ h)))) hown hK hP 91 rfl rfl 2 (by decide) (hts (.fieldLink RX11 415 "SagMemory$Search" "known" "Z") (wl_mem 1 rfl)) (fun _ h9 => h9) rfl dX11_seekOrders_4 ?_
  refine lv_if_ne (tgt := 32) hx hb dX11_seekOrders_7 (by decide) (fun cz1 => ?_) (fun cz1 => ?_)
  · skip
    have zz2 : ¬ (vR 0).toInt = (0 : Int) := fun h9 => cz1 (zi_eq.mpr h9)
    rw [hQ]
    exact W.vret hx hb hr (fun t ht hW => ⟨⟨(), rfl, trivial, vP, aP, eP, vZ, nZ, aZ, vR, aR, heP, hnZ, by rw [ht]; exact hP⟩, hS.F ht⟩) hS.2.2 dX11_seekOrders_32
  · skip
    have zz3 : (vR 0).toInt = (0 : Int) := zi_eq.mp cz1
    refine lv_aload_n hx hb dX11_seekOrders_10 rfl (lv_at hl 0 rfl) ?_
    refine va_get (D := (dC, dI)) (ci := 11) (v := .ref (qP 0)) (C := RX11) (T := TX11) (N := 15) hx hb hts (fun w h => List.mem_cons_of_mem _ (List.mem_append_right _ (List.mem_append_left _ h))) hown hK hP 94 rfl rfl 4 (by decide) (hts (.fieldLink RX11 37 "SagMemory" "trial" "LSagMemory$Plan;") (wl_mem 2 rfl)) (fun _ h9 => h9) rfl dX11_seekOrders_11 ?_
    refine lv_aload_n hx hb dX11_seekOrders_14 rfl (lv_at hl 0 rfl) ?_
    refine va_get (D := (dC, dI)) (ci := 11) (v := .ref (qN 0)) (C := RX11) (T := TX11) (N := 15) hx hb hts (fun w h => List.mem_cons_of_mem _ (List.mem_append_right _ (List.mem_append_left _ h))) hown hK hP 94 rfl rfl 3 (by decide) (hts (.fieldLink RX11 33 "SagMemory" "now" "LSagMemory$Plan;") (wl_mem 3 rfl)) (fun _ h9 => h9) rfl dX11_seekOrders_15 ?_
    have hPc := hP.sub (ws' := (List.flatten [(wPlan qP k vP aP eP)] ++ List.flatten [(wPlan qN k vN aN eN)])) [0, 1, 2, 107, 108, 109] rfl
    have hC : [0, 1, 2, 107, 108, 109].map (fun i => (List.flatten [(wPlan qP k vP aP eP), (wState (sZ 0) k (vZ 0) (nZ 0) (aZ 0)), (wState (sZ 1) k (vZ 1) (nZ 1) (aZ 1)), (wState (sZ 2) k (vZ 2) (nZ 2) (aZ 2)), (wState (sZ 3) k (vZ 3) (nZ 3) (aZ 3)), (wState (sZ 4) k (vZ 4) (nZ 4) (aZ 4)), (wState (sZ 5) k (vZ 5) (nZ 5) (aZ 5)), (wState (sZ 6) k (vZ 6) (nZ 6) (aZ 6)), (wState (sZ 7) k (vZ 7) (nZ 7) (aZ 7)), (wSearch qR k vR aR)] ++ List.flatten [(wSag qX k tapeX (qV 0) actsX (qN 0) (qP 0) storyX (qZ 0) (qR 0) routeSearchX setSearchX probeX slot0X slot1X slot2X slot3X image0X image1X image2X aX), (wValley qV k vV bV cV wV aV eV), (wPlan qN k vN aN eN), (wStoO qZ k (qV 0) (qP 0) (sZ 0 0) (sZ 1 0) (sZ 2 0) (sZ 3 0) (sZ 4 0) (sZ 5 0) (sZ 6 0) (sZ 7 0))])[i]?) = (List.flatten [(wPlan qP k vP aP eP)] ++ List.flatten [(wPlan qN k vN aN eN)]).map some := rfl
    have hDc := hD.sub [0, 1, 2, 107, 108, 109] (by decide) hC
    have hFc := va_free hD hS hA [0, 1, 2, 107, 108, 109] hC
    refine va_callv (va_runV (As := [.ref (qN 0)]) (rest := []) ⟨hx, hb, hml, hown, hts⟩ (c_X3_take l dC dI k s.heap.size qP vP aP eP qN vN aN eN heP heN) (cwV 1 hts (gk_V (wl_mem 4 rfl) (wl_mem 5 rfl) (wl_mem 6 rfl) (wl_mem 7 rfl) (fun w h => List.mem_cons_of_mem _ (List.mem_append_right _ (List.mem_append_right _ (List.mem_append_right _ (List.mem_append_left _ h))))) wkg_c_X3_take) rfl rfl rfl (by decide +kernel) ⟨Nat.le_of_ble_eq_true rfl, Nat.le_of_ble_eq_true rfl⟩) ⟨fun a U g mk q => by obtain ⟨q0, q1, qP, qK, qD⟩ := q; exact ⟨q0, q1, qP, va_K.moved (u := U) (U := U.calling g mk a) (Vm.Alike.refl U.vm) qK, qD⟩, va_recv hK hPc (ci := 3) (q0 := 0) rfl rfl, fun U hU hW => ⟨rfl, by rw [hU], by rw [hU]; exact hPc, va_K.moved hW.alike hK, hDc.weaken (fun _ _ _ _ => trivial)⟩⟩ rfl rfl hl.1 rfl (lv_room (Nat.le_of_ble_eq_true rfl)) dX11_seekOrders_18 ⟨Nat.le_of_ble_eq_true rfl, Nat.le_of_ble_eq_true rfl⟩) hS (fun q _ h => hFc q h) hFc (fun u t H1 locs ht hvm gz4 hB hz1 hk1 hS => ?_)
    obtain ⟨vz6, az7, ez8, hez8, hP1⟩ := hB
    rw [ht] at hP1
    obtain ⟨hP, hD⟩ := w_callR hP hD hk1 hP1 [0] rfl rfl (wk_memC [12] rfl) rfl [some 0, none, none, none, none, none, none, none, none, none] rfl rfl
    clear hPc hC hDc hFc hk1 hP1
    generalize H1 = H at hP hS ⊢
    have hP : va_P (dC, dI) vwCl (List.flatten [(wPlan qP k vz6 az7 ez8), (wState (sZ 0) k (vZ 0) (nZ 0) (aZ 0)), (wState (sZ 1) k (vZ 1) (nZ 1) (aZ 1)), (wState (sZ 2) k (vZ 2) (nZ 2) (aZ 2)), (wState (sZ 3) k (vZ 3) (nZ 3) (aZ 3)), (wState (sZ 4) k (vZ 4) (nZ 4) (aZ 4)), (wState (sZ 5) k (vZ 5) (nZ 5) (aZ 5)), (wState (sZ 6) k (vZ 6) (nZ 6) (aZ 6)), (wState (sZ 7) k (vZ 7) (nZ 7) (aZ 7)), (wSearch qR k vR aR)] ++ List.flatten [(wSag qX k tapeX (qV 0) actsX (qN 0) (qP 0) storyX (qZ 0) (qR 0) routeSearchX setSearchX probeX slot0X slot1X slot2X slot3X image0X image1X image2X aX), (wValley qV k vV bV cV wV aV eV), (wPlan qN k vN aN eN), (wStoO qZ k (qV 0) (qP 0) (sZ 0 0) (sZ 1 0) (sZ 2 0) (sZ 3 0) (sZ 4 0) (sZ 5 0) (sZ 6 0) (sZ 7 0))]) H := hP
    have hD : va_D A (List.flatten [(wPlan qP k vz6 az7 ez8), (wState (sZ 0) k (vZ 0) (nZ 0) (aZ 0)), (wState (sZ 1) k (vZ 1) (nZ 1) (aZ 1)), (wState (sZ 2) k (vZ 2) (nZ 2) (aZ 2)), (wState (sZ 3) k (vZ 3) (nZ 3) (aZ 3)), (wState (sZ 4) k (vZ 4) (nZ 4) (aZ 4)), (wState (sZ 5) k (vZ 5) (nZ 5) (aZ 5)), (wState (sZ 6) k (vZ 6) (nZ 6) (aZ 6)), (wState (sZ 7) k (vZ 7) (nZ 7) (aZ 7)), (wSearch qR k vR aR)] ++ List.flatten [(wSag qX k tapeX (qV 0) actsX (qN 0) (qP 0) storyX (qZ 0) (qR 0) routeSearchX setSearchX probeX slot0X slot1X slot2X slot3X image0X image1X image2X aX), (wValley qV k vV bV cV wV aV eV), (wPlan qN k vN aN eN), (wStoO qZ k (qV 0) (qP 0) (sZ 0 0) (sZ 1 0) (sZ 2 0) (sZ 3 0) (sZ 4 0) (sZ 5 0) (sZ 6 0) (sZ 7 0))]) := hD
    refine W.widen (k := 0) (n := 0) (Nat.le_refl 0) (Nat.le_refl 0) ?_
    refine lv_aload_n hx hb dX11_seekOrders_21 rfl (lv_at hl 0 rfl) ?_
    refine va_get (D := (dC, dI)) (ci := 11) (v := .ref (qR 0)) (C := RX11) (T := TX11) (N := 15) hx hb hts (fun w h => List.mem_cons_of_mem _ (List.mem_append_right _ (List.mem_append_left _ h))) hown hK hP 94 rfl rfl 7 (by decide) (hts (.fieldLink RX11 55 "SagMemory" "orderSearch" "LSagMemory$Search;") (wl_mem 0 rfl)) (fun _ h9 => h9) rfl dX11_seekOrders_22 ?_
    refine lv_aload_n hx hb dX11_seekOrders_25 rfl (lv_at hl 0 rfl) ?_
    refine va_get (D := (dC, dI)) (ci := 11) (v := .ref (qZ 0)) (C := RX11) (T := TX11) (N := 15) hx hb hts (fun w h => List.mem_cons_of_mem _ (List.mem_append_right _ (List.mem_append_left _ h))) hown hK hP 94 rfl rfl 6 (by decide) (hts (.fieldLink RX11 49 "SagMemory" "attempt" "LSagMemory$Story;") (wl_mem 8 rfl)) (fun _ h9 => h9) rfl dX11_seekOrders_26 ?_
    have hPc : va_P (dC, dI) vwCl (List.flatten [(wSearch qR k vR aR), (wState (sZ 0) k (vZ 0) (nZ 0) (aZ 0)), (wState (sZ 1) k (vZ 1) (nZ 1) (aZ 1)), (wState (sZ 2) k (vZ 2) (nZ 2) (aZ 2)), (wState (sZ 3) k (vZ 3) (nZ 3) (aZ 3)), (wState (sZ 4) k (vZ 4) (nZ 4) (aZ 4)), (wState (sZ 5) k (vZ 5) (nZ 5) (aZ 5)), (wState (sZ 6) k (vZ 6) (nZ 6) (aZ 6)), (wState (sZ 7) k (vZ 7) (nZ 7) (aZ 7))] ++ List.flatten [(wStoO qZ k (qV 0) (qP 0) (sZ 0 0) (sZ 1 0) (sZ 2 0) (sZ 3 0) (sZ 4 0) (sZ 5 0) (sZ 6 0) (sZ 7 0)), (wValley qV k vV bV cV wV aV eV), (wPlan qP k vz6 az7 ez8)]) H := wc_subP hP [9, 1, 2, 3, 4, 5, 6, 7, 8, 13, 11, 0] rfl
    have hDc : va_D A (List.flatten [(wSearch qR k vR aR), (wState (sZ 0) k (vZ 0) (nZ 0) (aZ 0)), (wState (sZ 1) k (vZ 1) (nZ 1) (aZ 1)), (wState (sZ 2) k (vZ 2) (nZ 2) (aZ 2)), (wState (sZ 3) k (vZ 3) (nZ 3) (aZ 3)), (wState (sZ 4) k (vZ 4) (nZ 4) (aZ 4)), (wState (sZ 5) k (vZ 5) (nZ 5) (aZ 5)), (wState (sZ 6) k (vZ 6) (nZ 6) (aZ 6)), (wState (sZ 7) k (vZ 7) (nZ 7) (aZ 7))] ++ List.flatten [(wStoO qZ k (qV 0) (qP 0) (sZ 0 0) (sZ 1 0) (sZ 2 0) (sZ 3 0) (sZ 4 0) (sZ 5 0) (sZ 6 0) (sZ 7 0)), (wValley qV k vV bV cV wV aV eV), (wPlan qP k vz6 az7 ez8)]) := wc_subD hD [9, 1, 2, 3, 4, 5, 6, 7, 8, 13, 11, 0] rfl rfl
    have hFc := wc_free hDc hS hA
    refine va_callv (va_runV (As := [.ref (qZ 0)]) (rest := []) ⟨hx, hb, hml, hown, hts⟩ (c_X4_tryOrders l dC dI k H.size qR vR aR qZ sZ vZ nZ aZ qV vV bV cV wV aV eV qP vz6 az7 ez8 hnZ hbV hcV hwV heV hez8) (cwV 1 hts (gk_V (wl_mem 9 rfl) (wl_mem 10 rfl) (wl_mem 11 rfl) (wl_mem 12 rfl) (fun w h => List.mem_cons_of_mem _ (List.mem_append_right _ (List.mem_append_right _ (List.mem_append_right _ (List.mem_append_right _ (List.mem_append_left _ h)))))) wkg_c_X4_tryOrders) rfl rfl rfl (by decide +kernel) ⟨Nat.le_of_ble_eq_true rfl, Nat.le_of_ble_eq_true rfl⟩) ⟨fun a U g mk q => by obtain ⟨q0, q1, qP, qK, qD⟩ := q; exact ⟨q0, q1, qP, va_K.moved (u := U) (U := U.calling g mk a) (Vm.Alike.refl U.vm) qK, qD⟩, va_recv hK hPc (ci := 4) (q0 := 0) rfl rfl, fun U hU hW => ⟨rfl, by rw [hU], by rw [hU]; exact hPc, va_K.moved hW.alike hK, hDc.weaken (fun _ _ _ _ => trivial)⟩⟩ rfl rfl hl.1 rfl (lv_room (Nat.le_of_ble_eq_true rfl)) dX11_seekOrders_29 ⟨Nat.le_of_ble_eq_true rfl, Nat.le_of_ble_eq_true rfl⟩) hS (fun q _ h => hFc q h) hFc (fun u t H1 locs ht hvm gz9 hB hz1 hk1 hS => ?_)
    obtain ⟨vz11, az12, vz13, nz14, az15, hnz14, hP1⟩ := hB
    rw [ht] at hP1
    obtain ⟨hP, hD⟩ := w_callR hP hD hk1 hP1 [9, 1, 2, 3, 4, 5, 6, 7, 8] rfl rfl (wk_memC [13, 11, 0] rfl) rfl [none, some 1, some 2, some 3, some 4, some 5, some 6, some 7, some 8, some 0] rfl rfl
    clear hPc hDc hFc hk1 hP1
    generalize H1 = H at hP hS ⊢
    have hP : va_P (dC, dI) vwCl (List.flatten [(wPlan qP k vz6 az7 ez8), (wState (sZ 0) k (vz13 0) (nz14 0) (az15 0)), (wState (sZ 1) k (vz13 1) (nz14 1) (az15 1)), (wState (sZ 2) k (vz13 2) (nz14 2) (az15 2)), (wState (sZ 3) k (vz13 3) (nz14 3) (az15 3)), (wState (sZ 4) k (vz13 4) (nz14 4) (az15 4)), (wState (sZ 5) k (vz13 5) (nz14 5) (az15 5)), (wState (sZ 6) k (vz13 6) (nz14 6) (az15 6)), (wState (sZ 7) k (vz13 7) (nz14 7) (az15 7)), (wSearch qR k vz11 az12)] ++ List.flatten [(wSag qX k tapeX (qV 0) actsX (qN 0) (qP 0) storyX (qZ 0) (qR 0) routeSearchX setSearchX probeX slot0X slot1X slot2X slot3X image0X image1X image2X aX), (wValley qV k vV bV cV wV aV eV), (wPlan qN k vN aN eN), (wStoO qZ k (qV 0) (qP 0) (sZ 0 0) (sZ 1 0) (sZ 2 0) (sZ 3 0) (sZ 4 0) (sZ 5 0) (sZ 6 0) (sZ 7 0))]) H := hP
    have hD : va_D A (List.flatten [(wPlan qP k vz6 az7 ez8), (wState (sZ 0) k (vz13 0) (nz14 0) (az15 0)), (wState (sZ 1) k (vz13 1) (nz14 1) (az15 1)), (wState (sZ 2) k (vz13 2) (nz14 2) (az15 2)), (wState (sZ 3) k (vz13 3) (nz14 3) (az15 3)), (wState (sZ 4) k (vz13 4) (nz14 4) (az15 4)), (wState (sZ 5) k (vz13 5) (nz14 5) (az15 5)), (wState (sZ 6) k (vz13 6) (nz14 6) (az15 6)), (wState (sZ 7) k (vz13 7) (nz14 7) (az15 7)), (wSearch qR k vz11 az12)] ++ List.flatten [(wSag qX k tapeX (qV 0) actsX (qN 0) (qP 0) storyX (qZ 0) (qR 0) routeSearchX setSearchX probeX slot0X slot1X slot2X slot3X image0X image1X image2X aX), (wValley qV k vV bV cV wV aV eV), (wPlan qN k vN aN eN), (wStoO qZ k (qV 0) (qP 0) (sZ 0 0) (sZ 1 0) (sZ 2 0) (sZ 3 0) (sZ 4 0) (sZ 5 0) (sZ 6 0) (sZ 7 0))]) := hD
    refine W.widen (k := 0) (n := 0) (Nat.le_refl 0) (Nat.le_refl 0) ?_
    rw [hQ]
    exact W.vret hx hb hr (fun t ht hW => ⟨⟨(), rfl, trivial, vz6, az7, ez8, vz13, nz14, az15, vz11, az12, hez8, hnz14, by rw [ht]; exact hP⟩, hS.F ht⟩) hS.2.2 dX11_seekOrders_32
def wk_c_X11_seekRoutes : List Cond := .code yX11_seekRoutes cX11_seekRoutes 1 none :: ([.fieldLink RX11 59 "SagMemory" "routeSearch" "LSagMemory$Search;", .fieldLink RX11 415 "SagMemory$Search" "known" "Z", .fieldLink RX11 37 "SagMemory" "trial" "LSagMemory$Plan;", .fieldLink RX11 33 "SagMemory" "now" "LSagMemory$Plan;", .methodLink RX11 425 yX3_take, .instanceMethod yX3_take, .selects RX3 yX3_take yX3_take, .initialized RX3, .fieldLink RX11 49 "SagMemory" "attempt" "LSagMemory$Story;", .methodLink RX11 432 yX4_tryRoutes, .instanceMethod yX4_tryRoutes, .selects RX4 yX4_tryRoutes yX4_tryRoutes, .initialized RX4] ++ (wsX110 ++ (wsX40 ++ (wk_c_X3_take ++ (wk_c_X4_tryRoutes ++ [])))))
theorem wkg_c_X11_seekRoutes : wk_c_X11_seekRoutes.all goodWord = true := by decide +kernel
set_option maxHeartbeats 4000000 in
set_option maxRecDepth 100000 in
theorem c_X11_seekRoutes (l : Launch) (dC : Nat → ClassId) (dI : Nat → Nat → Nat) (k : Nat → ClassId) (sz : Nat) (qX : Nat → Nat) (tapeX : Nat) (actsX : Nat) (storyX : Nat) (orderSearchX : Nat) (setSearchX : Nat) (probeX : Nat) (slot0X : Nat) (slot1X : Nat) (slot2X : Nat) (slot3X : Nat) (image0X : Nat) (image1X : Nat) (image2X : Nat) (aX : Nat → Nat → Int32) (qV : Nat → Nat) (vV : Nat → Int32) (bV : Nat → Int32) (cV : Nat → Int32) (wV : Nat → Int32) (aV : Nat → Nat → Int32) (eV : Nat → Nat → Int32) (qN : Nat → Nat) (vN : Nat → Int32) (aN : Nat → Nat → Int32) (eN : Nat → Nat → Int32) (qP : Nat → Nat) (vP : Nat → Int32) (aP : Nat → Nat → Int32) (eP : Nat → Nat → Int32) (qZ : Nat → Nat) (sZ : Nat → Nat → Nat) (vZ : Nat → Nat → Int32) (nZ : Nat → Nat → Int32) (aZ : Nat → Nat → Nat → Int32) (qU : Nat → Nat) (vU : Nat → Int32) (aU : Nat → Nat → Int32) (hbV : Rg 0 3 bV) (hcV : Rg 0 7 cV) (hwV : Rg 0 5 wV) (heV : RgA 0 99 eV) (heN : RgA 0 99 eN) (heP : RgA 0 99 eP) (hnZ : ∀ t9, Rg 0 8 (nZ t9)) : Met l yX11_seekRoutes wk_c_X11_seekRoutes ({ frames := 4, cells := 0, slots := 0, locals := 156 }) (va_Pc [.ref (qX 0)] (fun U => U.heap.size = sz ∧ va_P (dC, dI) vwCl (List.flatten [(wPlan qP k vP aP eP), (wState (sZ 0) k (vZ 0) (nZ 0) (aZ 0)), (wState (sZ 1) k (vZ 1) (nZ 1) (aZ 1)), (wState (sZ 2) k (vZ 2) (nZ 2) (aZ 2)), (wState (sZ 3) k (vZ 3) (nZ 3) (aZ 3)), (wState (sZ 4) k (vZ 4) (nZ 4) (aZ 4)), (wState (sZ 5) k (vZ 5) (nZ 5) (aZ 5)), (wState (sZ 6) k (vZ 6) (nZ 6) (aZ 6)), (wState (sZ 7) k (vZ 7) (nZ 7) (aZ 7)), (wSearch qU k vU aU)] ++ List.flatten [(wSag qX k tapeX (qV 0) actsX (qN 0) (qP 0) storyX (qZ 0) orderSearchX (qU 0) setSearchX probeX slot0X slot1X slot2X slot3X image0X image1X image2X aX), (wValley qV k vV bV cV wV aV eV), (wPlan qN k vN aN eN), (wStoO qZ k (qV 0) (qP 0) (sZ 0 0) (sZ 1 0) (sZ 2 0) (sZ 3 0) (sZ 4 0) (sZ 5 0) (sZ 6 0) (sZ 7 0))]) U.heap ∧ va_K (dC, dI) vwCl (tK k) U ∧ va_D (fun _ => True) (List.flatten [(wPlan qP k vP aP eP), (wState (sZ 0) k (vZ 0) (nZ 0) (aZ 0)), (wState (sZ 1) k (vZ 1) (nZ 1) (aZ 1)), (wState (sZ 2) k (vZ 2) (nZ 2) (aZ 2)), (wState (sZ 3) k (vZ 3) (nZ 3) (aZ 3)), (wState (sZ 4) k (vZ 4) (nZ 4) (aZ 4)), (wState (sZ 5) k (vZ 5) (nZ 5) (aZ 5)), (wState (sZ 6) k (vZ 6) (nZ 6) (aZ 6)), (wState (sZ 7) k (vZ 7) (nZ 7) (aZ 7)), (wSearch qU k vU aU)] ++ List.flatten [(wSag qX k tapeX (qV 0) actsX (qN 0) (qP 0) storyX (qZ 0) orderSearchX (qU 0) setSearchX probeX slot0X slot1X slot2X slot3X image0X image1X image2X aX), (wValley qV k vV bV cV wV aV eV), (wPlan qN k vN aN eN), (wStoO qZ k (qV 0) (qP 0) (sZ 0 0) (sZ 1 0) (sZ 2 0) (sZ 3 0) (sZ 4 0) (sZ 5 0) (sZ 6 0) (sZ 7 0))]))) (va_Qv (fun _ : Unit => True) (fun (_ : Unit) (t : State) => ∃ (vP' : Nat → Int32) (aP' : Nat → Nat → Int32) (eP' : Nat → Nat → Int32) (vZ' : Nat → Nat → Int32) (nZ' : Nat → Nat → Int32) (aZ' : Nat → Nat → Nat → Int32) (vU' : Nat → Int32) (aU' : Nat → Nat → Int32), RgA 0 99 eP' ∧ (∀ t9, Rg 0 8 (nZ' t9)) ∧ va_P (dC, dI) vwCl (List.flatten [(wPlan qP k vP' aP' eP'), (wState (sZ 0) k (vZ' 0) (nZ' 0) (aZ' 0)), (wState (sZ 1) k (vZ' 1) (nZ' 1) (aZ' 1)), (wState (sZ 2) k (vZ' 2) (nZ' 2) (aZ' 2)), (wState (sZ 3) k (vZ' 3) (nZ' 3) (aZ' 3)), (wState (sZ 4) k (vZ' 4) (nZ' 4) (aZ' 4)), (wState (sZ 5) k (vZ' 5) (nZ' 5) (aZ' 5)), (wState (sZ 6) k (vZ' 6) (nZ' 6) (aZ' 6)), (wState (sZ 7) k (vZ' 7) (nZ' 7) (aZ' 7)), (wSearch qU k vU' aU')] ++ List.flatten [(wSag qX k tapeX (qV 0) actsX (qN 0) (qP 0) storyX (qZ 0) orderSearchX (qU 0) setSearchX probeX slot0X slot1X slot2X slot3X image0X image1X image2X aX), (wValley qV k vV bV cV wV aV eV), (wPlan qN k vN aN eN), (wStoO qZ k (qV 0) (qP 0) (sZ 0 0) (sZ 1 0) (sZ 2 0) (sZ 3 0) (sZ 4 0) (sZ 5 0) (sZ 6 0) (sZ 7 0))]) t.heap) (va_A (List.flatten [(wPlan qP k vP aP eP), (wState (sZ 0) k (vZ 0) (nZ 0) (aZ 0)), (wState (sZ 1) k (vZ 1) (nZ 1) (aZ 1)), (wState (sZ 2) k (vZ 2) (nZ 2) (aZ 2)), (wState (sZ 3) k (vZ 3) (nZ 3) (aZ 3)), (wState (sZ 4) k (vZ 4) (nZ 4) (aZ 4)), (wState (sZ 5) k (vZ 5) (nZ 5) (aZ 5)), (wState (sZ 6) k (vZ 6) (nZ 6) (aZ 6)), (wState (sZ 7) k (vZ 7) (nZ 7) (aZ 7)), (wSearch qU k vU aU)] ++ List.flatten [(wSag qX k tapeX (qV 0) actsX (qN 0) (qP 0) storyX (qZ 0) orderSearchX (qU 0) setSearchX probeX slot0X slot1X slot2X slot3X image0X image1X image2X aX), (wValley qV k vV bV cV wV aV eV), (wPlan qN k vN aN eN), (wStoO qZ k (qV 0) (qP 0) (sZ 0 0) (sZ 1 0) (sZ 2 0) (sZ 3 0) (sZ 4 0) (sZ 5 0) (sZ 6 0) (sZ 7 0))]) sz)) 0 0 (va_A (List.flatten [(wPlan qP k vP aP eP), (wState (sZ 0) k (vZ 0) (nZ 0) (aZ 0)), (wState (sZ 1) k (vZ 1) (nZ 1) (aZ 1)), (wState (sZ 2) k (vZ 2) (nZ 2) (aZ 2)), (wState (sZ 3) k (vZ 3) (nZ 3) (aZ 3)), (wState (sZ 4) k (vZ 4) (nZ 4) (aZ 4)), (wState (sZ 5) k (vZ 5) (nZ 5) (aZ 5)), (wState (sZ 6) k (vZ 6) (nZ 6) (aZ 6)), (wState (sZ 7) k (vZ 7) (nZ 7) (aZ 7)), (wSearch qU k vU aU)] ++ List.flatten [(wSag qX k tapeX (qV 0) actsX (qN 0) (qP 0) storyX (qZ 0) orderSearchX (qU 0) setSearchX probeX slot0X slot1X slot2X slot3X image0X image1X image2X aX), (wValley qV k vV bV cV wV aV eV), (wPlan qN k vN aN eN), (wStoO qZ k (qV 0) (qP 0) (sZ 0 0) (sZ 1 0) (sZ 2 0) (sZ 3 0) (sZ 4 0) (sZ 5 0) (sZ 6 0) (sZ 7 0))]) sz) := by
  refine Met.ofW (cc := cX11_seekRoutes) (maxL := 1) (ret := none) (by decide) rfl ?_
  intro p e s m args below meth c s₁ B hml hv
  obtain ⟨rfl, hsz, hP, hK, hD0⟩ := hv
  have hx := B.exec
  have hb := B.bytes
  have hr := B.returns
  have hts := atoms_spec (ws := wk_c_X11_seekRoutes) B.pre
  have hown : s.vm.findClass RX11 = some m.cls := findClass_of_methodNamed B.named
  have hlocks := B.notSynchronized
  subst hsz
  have hD := hD0.self (sz := s.heap.size)
  generalize hAe : va_A (List.flatten [(wPlan qP k vP aP eP), (wState (sZ 0) k (vZ 0) (nZ 0) (aZ 0)), (wState (sZ 1) k (vZ 1) (nZ 1) (aZ 1)), (wState (sZ 2) k (vZ 2) (nZ 2) (aZ 2)), (wState (sZ 3) k (vZ 3) (nZ 3) (aZ 3)), (wState (sZ 4) k (vZ 4) (nZ 4) (aZ 4)), (wState (sZ 5) k (vZ 5) (nZ 5) (aZ 5)), (wState (sZ 6) k (vZ 6) (nZ 6) (aZ 6)), (wState (sZ 7) k (vZ 7) (nZ 7) (aZ 7)), (wSearch qU k vU aU)] ++ List.flatten [(wSag qX k tapeX (qV 0) actsX (qN 0) (qP 0) storyX (qZ 0) orderSearchX (qU 0) setSearchX probeX slot0X slot1X slot2X slot3X image0X image1X image2X aX), (wValley qV k vV bV cV wV aV eV), (wPlan qN k vN aN eN), (wStoO qZ k (qV 0) (qP 0) (sZ 0 0) (sZ 1 0) (sZ 2 0) (sZ 3 0) (sZ 4 0) (sZ 5 0) (sZ 6 0) (sZ 7 0))]) s.heap.size = A at hD ⊢
  have hA : ∀ q : Nat, s.heap.size ≤ q → A q := fun q h => by rw [← hAe]; exact Or.inr h
  have hS : va_S A s.heap s.heap [] := va_S.rf
  have hP : va_P (dC, dI) vwCl (List.flatten [(wPlan qP k vP aP eP), (wState (sZ 0) k (vZ 0) (nZ 0) (aZ 0)), (wState (sZ 1) k (vZ 1) (nZ 1) (aZ 1)), (wState (sZ 2) k (vZ 2) (nZ 2) (aZ 2)), (wState (sZ 3) k (vZ 3) (nZ 3) (aZ 3)), (wState (sZ 4) k (vZ 4) (nZ 4) (aZ 4)), (wState (sZ 5) k (vZ 5) (nZ 5) (aZ 5)), (wState (sZ 6) k (vZ 6) (nZ 6) (aZ 6)), (wState (sZ 7) k (vZ 7) (nZ 7) (aZ 7)), (wSearch qU k vU aU)] ++ List.flatten [(wSag qX k tapeX (qV 0) actsX (qN 0) (qP 0) storyX (qZ 0) orderSearchX (qU 0) setSearchX probeX slot0X slot1X slot2X slot3X image0X image1X image2X aX), (wValley qV k vV bV cV wV aV eV), (wPlan qN k vN aN eN), (wStoO qZ k (qV 0) (qP 0) (sZ 0 0) (sZ 1 0) (sZ 2 0) (sZ 3 0) (sZ 4 0) (sZ 5 0) (sZ 6 0) (sZ 7 0))]) s.heap := hP
  have hl := lv_entry ([.ref (qX 0)]) (n := 1) (Nat.le_of_ble_eq_true rfl)
  rw [lg_entry_eq]
  generalize (lg_sl ([.ref (qX 0)]) ++ List.replicate (1 - (lg_sl ([.ref (qX 0)])).length) Slot.unset).toArray = ls at hl ⊢
  have hl : lv_has ls 1 [(0, .ref (qX 0))] := hl
  refine w_gen (fun Q hQ => ?_)
  refine lv_aload_n hx hb dX11_seekRoutes_0 rfl (lv_at hl 0 rfl) ?_
  refine va_get (D := (dC, dI)) (ci := 11) (v := .ref (qU 0)) (C := RX11) (T := TX11) (N := 15) hx hb hts (fun w h => List.mem_cons_of_mem _ (List.mem_append_right _ (List.mem_append_left _ h))) hown hK hP 94 rfl rfl 8 (by decide) (hts (.fieldLink RX11 59 "SagMemory" "routeSearch" "LSagMemory$Search;") (wl_mem 0 rfl)) (fun _ h9 => h9) rfl dX11_seekRoutes_1 ?_
  refine va_get (D := (dC, dI)) (ci := 4) (v := .int (vU 0)) (C := RX4) (T := TX4) (N := 6) hx hb hts (fun w h => List.mem_cons_of_mem _ (List.mem_append_right _ (List.mem_append_right _ (List.mem_append_left _ h)))) hown hK hP 91 rfl rfl 2 (by decide) (hts (.fieldLink RX11 415 "SagMemory$Search" "known" "Z") (wl_mem 1 rfl)) (fun _ h9 => h9) rfl dX11_seekRoutes_4 ?_
  refine lv_if_ne (tgt := 32) hx hb dX11_seekRoutes_7 (by decide) (fun cz1 => ?_) (fun cz1 => ?_)
  · skip
    have zz2 : ¬ (vU 0).toInt = (0 : Int) := fun h9 => cz1 (zi_eq.mpr h9)
    rw [hQ]
    exact W.vret hx hb hr (fun t ht hW => ⟨⟨(), rfl, trivial, vP, aP, eP, vZ, nZ, aZ, vU, aU, heP, hnZ, by rw [ht]; exact hP⟩, hS.F ht⟩) hS.2.2 dX11_seekRoutes_32
  · skip
    have zz3 : (vU 0).toInt = (0 : Int) := zi_eq.mp cz1
    refine lv_aload_n hx hb dX11_seekRoutes_10 rfl (lv_at hl 0 rfl) ?_
    refine va_get (D := (dC, dI)) (ci := 11) (v := .ref (qP 0)) (C := RX11) (T := TX11) (N := 15) hx hb hts (fun w h => List.mem_cons_of_mem _ (List.mem_append_right _ (List.mem_append_left _ h))) hown hK hP 94 rfl rfl 4 (by decide) (hts (.fieldLink RX11 37 "SagMemory" "trial" "LSagMemory$Plan;") (wl_mem 2 rfl)) (fun _ h9 => h9) rfl dX11_seekRoutes_11 ?_
    refine lv_aload_n hx hb dX11_seekRoutes_14 rfl (lv_at hl 0 rfl) ?_
    refine va_get (D := (dC, dI)) (ci := 11) (v := .ref (qN 0)) (C := RX11) (T := TX11) (N := 15) hx hb hts (fun w h => List.mem_cons_of_mem _ (List.mem_append_right _ (List.mem_append_left _ h))) hown hK hP 94 rfl rfl 3 (by decide) (hts (.fieldLink RX11 33 "SagMemory" "now" "LSagMemory$Plan;") (wl_mem 3 rfl)) (fun _ h9 => h9) rfl dX11_seekRoutes_15 ?_
    have hPc := hP.sub (ws' := (List.flatten [(wPlan qP k vP aP eP)] ++ List.flatten [(wPlan qN k vN aN eN)])) [0, 1, 2, 107, 108, 109] rfl
    have hC : [0, 1, 2, 107, 108, 109].map (fun i => (List.flatten [(wPlan qP k vP aP eP), (wState (sZ 0) k (vZ 0) (nZ 0) (aZ 0)), (wState (sZ 1) k (vZ 1) (nZ 1) (aZ 1)), (wState (sZ 2) k (vZ 2) (nZ 2) (aZ 2)), (wState (sZ 3) k (vZ 3) (nZ 3) (aZ 3)), (wState (sZ 4) k (vZ 4) (nZ 4) (aZ 4)), (wState (sZ 5) k (vZ 5) (nZ 5) (aZ 5)), (wState (sZ 6) k (vZ 6) (nZ 6) (aZ 6)), (wState (sZ 7) k (vZ 7) (nZ 7) (aZ 7)), (wSearch qU k vU aU)] ++ List.flatten [(wSag qX k tapeX (qV 0) actsX (qN 0) (qP 0) storyX (qZ 0) orderSearchX (qU 0) setSearchX probeX slot0X slot1X slot2X slot3X image0X image1X image2X aX), (wValley qV k vV bV cV wV aV eV), (wPlan qN k vN aN eN), (wStoO qZ k (qV 0) (qP 0) (sZ 0 0) (sZ 1 0) (sZ 2 0) (sZ 3 0) (sZ 4 0) (sZ 5 0) (sZ 6 0) (sZ 7 0))])[i]?) = (List.flatten [(wPlan qP k vP aP eP)] ++ List.flatten [(wPlan qN k vN aN eN)]).map some := rfl
    have hDc := hD.sub [0, 1, 2, 107, 108, 109] (by decide) hC
    have hFc := va_free hD hS hA [0, 1, 2, 107, 108, 109] hC
    refine va_callv (va_runV (As := [.ref (qN 0)]) (rest := []) ⟨hx, hb, hml, hown, hts⟩ (c_X3_take l dC dI k s.heap.size qP vP aP eP qN vN aN eN heP heN) (cwV 1 hts (gk_V (wl_mem 4 rfl) (wl_mem 5 rfl) (wl_mem 6 rfl) (wl_mem 7 rfl) (fun w h => List.mem_cons_of_mem _ (List.mem_append_right _ (List.mem_append_right _ (List.mem_append_right _ (List.mem_append_left _ h))))) wkg_c_X3_take) rfl rfl rfl (by decide +kernel) ⟨Nat.le_of_ble_eq_true rfl, Nat.le_of_ble_eq_true rfl⟩) ⟨fun a U g mk q => by obtain ⟨q0, q1, qP, qK, qD⟩ := q; exact ⟨q0, q1, qP, va_K.moved (u := U) (U := U.calling g mk a) (Vm.Alike.refl U.vm) qK, qD⟩, va_recv hK hPc (ci := 3) (q0 := 0) rfl rfl, fun U hU hW => ⟨rfl, by rw [hU], by rw [hU]; exact hPc, va_K.moved hW.alike hK, hDc.weaken (fun _ _ _ _ => trivial)⟩⟩ rfl rfl hl.1 rfl (lv_room (Nat.le_of_ble_eq_true rfl)) dX11_seekRoutes_18 ⟨Nat.le_of_ble_eq_true rfl, Nat.le_of_ble_eq_true rfl⟩) hS (fun q _ h => hFc q h) hFc (fun u t H1 locs ht hvm gz4 hB hz1 hk1 hS => ?_)
    obtain ⟨vz6, az7, ez8, hez8, hP1⟩ := hB
    rw [ht] at hP1
    obtain ⟨hP, hD⟩ := w_callR hP hD hk1 hP1 [0] rfl rfl (wk_memC [12] rfl) rfl [some 0, none, none, none, none, none, none, none, none, none] rfl rfl
    clear hPc hC hDc hFc hk1 hP1
    generalize H1 = H at hP hS ⊢
    have hP : va_P (dC, dI) vwCl (List.flatten [(wPlan qP k vz6 az7 ez8), (wState (sZ 0) k (vZ 0) (nZ 0) (aZ 0)), (wState (sZ 1) k (vZ 1) (nZ 1) (aZ 1)), (wState (sZ 2) k (vZ 2) (nZ 2) (aZ 2)), (wState (sZ 3) k (vZ 3) (nZ 3) (aZ 3)), (wState (sZ 4) k (vZ 4) (nZ 4) (aZ 4)), (wState (sZ 5) k (vZ 5) (nZ 5) (aZ 5)), (wState (sZ 6) k (vZ 6) (nZ 6) (aZ 6)), (wState (sZ 7) k (vZ 7) (nZ 7) (aZ 7)), (wSearch qU k vU aU)] ++ List.flatten [(wSag qX k tapeX (qV 0) actsX (qN 0) (qP 0) storyX (qZ 0) orderSearchX (qU 0) setSearchX probeX slot0X slot1X slot2X slot3X image0X image1X image2X aX), (wValley qV k vV bV cV wV aV eV), (wPlan qN k vN aN eN), (wStoO qZ k (qV 0) (qP 0) (sZ 0 0) (sZ 1 0) (sZ 2 0) (sZ 3 0) (sZ 4 0) (sZ 5 0) (sZ 6 0) (sZ 7 0))]) H := hP
    have hD : va_D A (List.flatten [(wPlan qP k vz6 az7 ez8), (wState (sZ 0) k (vZ 0) (nZ 0) (aZ 0)), (wState (sZ 1) k (vZ 1) (nZ 1) (aZ 1)), (wState (sZ 2) k (vZ 2) (nZ 2) (aZ 2)), (wState (sZ 3) k (vZ 3) (nZ 3) (aZ 3)), (wState (sZ 4) k (vZ 4) (nZ 4) (aZ 4)), (wState (sZ 5) k (vZ 5) (nZ 5) (aZ 5)), (wState (sZ 6) k (vZ 6) (nZ 6) (aZ 6)), (wState (sZ 7) k (vZ 7) (nZ 7) (aZ 7)), (wSearch qU k vU aU)] ++ List.flatten [(wSag qX k tapeX (qV 0) actsX (qN 0) (qP 0) storyX (qZ 0) orderSearchX (qU 0) setSearchX probeX slot0X slot1X slot2X slot3X image0X image1X image2X aX), (wValley qV k vV bV cV wV aV eV), (wPlan qN k vN aN eN), (wStoO qZ k (qV 0) (qP 0) (sZ 0 0) (sZ 1 0) (sZ 2 0) (sZ 3 0) (sZ 4 0) (sZ 5 0) (sZ 6 0) (sZ 7 0))]) := hD
    refine W.widen (k := 0) (n := 0) (Nat.le_refl 0) (Nat.le_refl 0) ?_
    refine lv_aload_n hx hb dX11_seekRoutes_21 rfl (lv_at hl 0 rfl) ?_
    refine va_get (D := (dC, dI)) (ci := 11) (v := .ref (qU 0)) (C := RX11) (T := TX11) (N := 15) hx hb hts (fun w h => List.mem_cons_of_mem _ (List.mem_append_right _ (List.mem_append_left _ h))) hown hK hP 94 rfl rfl 8 (by decide) (hts (.fieldLink RX11 59 "SagMemory" "routeSearch" "LSagMemory$Search;") (wl_mem 0 rfl)) (fun _ h9 => h9) rfl dX11_seekRoutes_22 ?_
    refine lv_aload_n hx hb dX11_seekRoutes_25 rfl (lv_at hl 0 rfl) ?_
    refine va_get (D := (dC, dI)) (ci := 11) (v := .ref (qZ 0)) (C := RX11) (T := TX11) (N := 15) hx hb hts (fun w h => List.mem_cons_of_mem _ (List.mem_append_right _ (List.mem_append_left _ h))) hown hK hP 94 rfl rfl 6 (by decide) (hts (.fieldLink RX11 49 "SagMemory" "attempt" "LSagMemory$Story;") (wl_mem 8 rfl)) (fun _ h9 => h9) rfl dX11_seekRoutes_26 ?_
    have hPc : va_P (dC, dI) vwCl (List.flatten [(wSearch qU k vU aU), (wState (sZ 0) k (vZ 0) (nZ 0) (aZ 0)), (wState (sZ 1) k (vZ 1) (nZ 1) (aZ 1)), (wState (sZ 2) k (vZ 2) (nZ 2) (aZ 2)), (wState (sZ 3) k (vZ 3) (nZ 3) (aZ 3)), (wState (sZ 4) k (vZ 4) (nZ 4) (aZ 4)), (wState (sZ 5) k (vZ 5) (nZ 5) (aZ 5)), (wState (sZ 6) k (vZ 6) (nZ 6) (aZ 6)), (wState (sZ 7) k (vZ 7) (nZ 7) (aZ 7)), (wPlan qP k vz6 az7 ez8)] ++ List.flatten [(wStoO qZ k (qV 0) (qP 0) (sZ 0 0) (sZ 1 0) (sZ 2 0) (sZ 3 0) (sZ 4 0) (sZ 5 0) (sZ 6 0) (sZ 7 0)), (wValley qV k vV bV cV wV aV eV)]) H := wc_subP hP [9, 1, 2, 3, 4, 5, 6, 7, 8, 0, 13, 11] rfl
    have hDc : va_D A (List.flatten [(wSearch qU k vU aU), (wState (sZ 0) k (vZ 0) (nZ 0) (aZ 0)), (wState (sZ 1) k (vZ 1) (nZ 1) (aZ 1)), (wState (sZ 2) k (vZ 2) (nZ 2) (aZ 2)), (wState (sZ 3) k (vZ 3) (nZ 3) (aZ 3)), (wState (sZ 4) k (vZ 4) (nZ 4) (aZ 4)), (wState (sZ 5) k (vZ 5) (nZ 5) (aZ 5)), (wState (sZ 6) k (vZ 6) (nZ 6) (aZ 6)), (wState (sZ 7) k (vZ 7) (nZ 7) (aZ 7)), (wPlan qP k vz6 az7 ez8)] ++ List.flatten [(wStoO qZ k (qV 0) (qP 0) (sZ 0 0) (sZ 1 0) (sZ 2 0) (sZ 3 0) (sZ 4 0) (sZ 5 0) (sZ 6 0) (sZ 7 0)), (wValley qV k vV bV cV wV aV eV)]) := wc_subD hD [9, 1, 2, 3, 4, 5, 6, 7, 8, 0, 13, 11] rfl rfl
    have hFc := wc_free hDc hS hA
    refine va_callv (va_runV (As := [.ref (qZ 0)]) (rest := []) ⟨hx, hb, hml, hown, hts⟩ (c_X4_tryRoutes l dC dI k H.size qU vU aU qZ sZ vZ nZ aZ qV vV bV cV wV aV eV qP vz6 az7 ez8 hnZ hbV hcV hwV heV hez8) (cwV 1 hts (gk_V (wl_mem 9 rfl) (wl_mem 10 rfl) (wl_mem 11 rfl) (wl_mem 12 rfl) (fun w h => List.mem_cons_of_mem _ (List.mem_append_right _ (List.mem_append_right _ (List.mem_append_right _ (List.mem_append_right _ (List.mem_append_left _ h)))))) wkg_c_X4_tryRoutes) rfl rfl rfl (by decide +kernel) ⟨Nat.le_of_ble_eq_true rfl, Nat.le_of_ble_eq_true rfl⟩) ⟨fun a U g mk q => by obtain ⟨q0, q1, qP, qK, qD⟩ := q; exact ⟨q0, q1, qP, va_K.moved (u := U) (U := U.calling g mk a) (Vm.Alike.refl U.vm) qK, qD⟩, va_recv hK hPc (ci := 4) (q0 := 0) rfl rfl, fun U hU hW => ⟨rfl, by rw [hU], by rw [hU]; exact hPc, va_K.moved hW.alike hK, hDc.weaken (fun _ _ _ _ => trivial)⟩⟩ rfl rfl hl.1 rfl (lv_room (Nat.le_of_ble_eq_true rfl)) dX11_seekRoutes_29 ⟨Nat.le_of_ble_eq_true rfl, Nat.le_of_ble_eq_true rfl⟩) hS (fun q _ h => hFc q h) hFc (fun u t H1 locs ht hvm gz9 hB hz1 hk1 hS => ?_)
    obtain ⟨vz11, az12, vz13, nz14, az15, vz16, az17, ez18, hnz14, hez18, hP1⟩ := hB
    rw [ht] at hP1
    obtain ⟨hP, hD⟩ := w_callR hP hD hk1 hP1 [9, 1, 2, 3, 4, 5, 6, 7, 8, 0] rfl rfl (wk_memC [13, 11] rfl) rfl [some 9, some 1, some 2, some 3, some 4, some 5, some 6, some 7, some 8, some 0] rfl rfl
    clear hPc hDc hFc hk1 hP1
    generalize H1 = H at hP hS ⊢
    have hP : va_P (dC, dI) vwCl (List.flatten [(wPlan qP k vz16 az17 ez18), (wState (sZ 0) k (vz13 0) (nz14 0) (az15 0)), (wState (sZ 1) k (vz13 1) (nz14 1) (az15 1)), (wState (sZ 2) k (vz13 2) (nz14 2) (az15 2)), (wState (sZ 3) k (vz13 3) (nz14 3) (az15 3)), (wState (sZ 4) k (vz13 4) (nz14 4) (az15 4)), (wState (sZ 5) k (vz13 5) (nz14 5) (az15 5)), (wState (sZ 6) k (vz13 6) (nz14 6) (az15 6)), (wState (sZ 7) k (vz13 7) (nz14 7) (az15 7)), (wSearch qU k vz11 az12)] ++ List.flatten [(wSag qX k tapeX (qV 0) actsX (qN 0) (qP 0) storyX (qZ 0) orderSearchX (qU 0) setSearchX probeX slot0X slot1X slot2X slot3X image0X image1X image2X aX), (wValley qV k vV bV cV wV aV eV), (wPlan qN k vN aN eN), (wStoO qZ k (qV 0) (qP 0) (sZ 0 0) (sZ 1 0) (sZ 2 0) (sZ 3 0) (sZ 4 0) (sZ 5 0) (sZ 6 0) (sZ 7 0))]) H := hP
    have hD : va_D A (List.flatten [(wPlan qP k vz16 az17 ez18), (wState (sZ 0) k (vz13 0) (nz14 0) (az15 0)), (wState (sZ 1) k (vz13 1) (nz14 1) (az15 1)), (wState (sZ 2) k (vz13 2) (nz14 2) (az15 2)), (wState (sZ 3) k (vz13 3) (nz14 3) (az15 3)), (wState (sZ 4) k (vz13 4) (nz14 4) (az15 4)), (wState (sZ 5) k (vz13 5) (nz14 5) (az15 5)), (wState (sZ 6) k (vz13 6) (nz14 6) (az15 6)), (wState (sZ 7) k (vz13 7) (nz14 7) (az15 7)), (wSearch qU k vz11 az12)] ++ List.flatten [(wSag qX k tapeX (qV 0) actsX (qN 0) (qP 0) storyX (qZ 0) orderSearchX (qU 0) setSearchX probeX slot0X slot1X slot2X slot3X image0X image1X image2X aX), (wValley qV k vV bV cV wV aV eV), (wPlan qN k vN aN eN), (wStoO qZ k (qV 0) (qP 0) (sZ 0 0) (sZ 1 0) (sZ 2 0) (sZ 3 0) (sZ 4 0) (sZ 5 0) (sZ 6 0) (sZ 7 0))]) := hD
    refine W.widen (k := 0) (n := 0) (Nat.le_refl 0) (Nat.le_refl 0) ?_
    rw [hQ]
    exact W.vret hx hb hr (fun t ht hW => ⟨⟨(), rfl, trivial, vz16, az17, ez18, vz13, nz14, az15, vz11, az12, hez18, hnz14, by rw [ht]; exact hP⟩, hS.F ht⟩) hS.2.2 dX11_seekRoutes_32
def wk_c_X11_sagOfSet : List Cond := .code yX11_sagOfSet cX11_sagOfSet 3 (some .int) :: ([.fieldLink RX11 37 "SagMemory" "trial" "LSagMemory$Plan;", .fieldLink RX11 33 "SagMemory" "now" "LSagMemory$Plan;", .methodLink RX11 425 yX3_take, .instanceMethod yX3_take, .selects RX3 yX3_take yX3_take, .initialized RX3, .fieldLink RX11 19 "SagMemory" "told" "LSagMemory$Valley;", .fieldLink RX11 177 "SagMemory$Valley" "carts" "I", .fieldLink RX11 345 "SagMemory$Plan" "ways" "[I", .fieldLink RX11 49 "SagMemory" "attempt" "LSagMemory$Story;", .methodLink RX11 412 yX8_tell, .instanceMethod yX8_tell, .selects RX8 yX8_tell yX8_tell, .initialized RX8, .methodLink RX11 183 yX8_atEnd, .instanceMethod yX8_atEnd, .selects RX8 yX8_atEnd yX8_atEnd, .methodLink RX11 209 yX7_together, .instanceMethod yX7_together, .selects RX7 yX7_together yX7_together, .initialized RX7] ++ (wsX110 ++ (wk_c_X3_take ++ (wsX100 ++ (wsX30 ++ (wk_c_X8_tell ++ (wk_c_X8_atEnd ++ (wk_c_X7_together ++ []))))))))
theorem wkg_c_X11_sagOfSet : wk_c_X11_sagOfSet.all goodWord = true := by decide +kernel
set_option maxHeartbeats 4000000 in
set_option maxRecDepth 100000 in
theorem c_X11_sagOfSet (l : Launch) (dC : Nat → ClassId) (dI : Nat → Nat → Nat) (k : Nat → ClassId) (sz : Nat) (qX : Nat → Nat) (tapeX : Nat) (actsX : Nat) (storyX : Nat) (orderSearchX : Nat) (routeSearchX : Nat) (setSearchX : Nat) (probeX : Nat) (slot0X : Nat) (slot1X : Nat) (slot2X : Nat) (slot3X : Nat) (image0X : Nat) (image1X : Nat) (image2X : Nat) (aX : Nat → Nat → Int32) (qV : Nat → Nat) (vV : Nat → Int32) (bV : Nat → Int32) (cV : Nat → Int32) (wV : Nat → Int32) (aV : Nat → Nat → Int32) (eV : Nat → Nat → Int32) (qN : Nat → Nat) (vN : Nat → Int32) (aN : Nat → Nat → Int32) (eN : Nat → Nat → Int32) (qP : Nat → Nat) (vP : Nat → Int32) (aP : Nat → Nat → Int32) (eP : Nat → Nat → Int32) (qZ : Nat → Nat) (sZ : Nat → Nat → Nat) (vZ : Nat → Nat → Int32) (nZ : Nat → Nat → Int32) (aZ : Nat → Nat → Nat → Int32) (p1 : Int32) (hbV : Rg 0 3 bV) (hcV : Rg 0 7 cV) (hwV : Rg 0 5 wV) (heV : RgA 0 99 eV) (heN : RgA 0 99 eN) (heP : RgA 0 99 eP) (hnZ : ∀ t9, Rg 0 8 (nZ t9)) : Met l yX11_sagOfSet wk_c_X11_sagOfSet ({ frames := 4, cells := 0, slots := 0, locals := 152 }) (va_Pc [.ref (qX 0), .int p1] (fun U => U.heap.size = sz ∧ va_P (dC, dI) vwCl (List.flatten [(wPlan qP k vP aP eP), (wState (sZ 0) k (vZ 0) (nZ 0) (aZ 0)), (wState (sZ 1) k (vZ 1) (nZ 1) (aZ 1)), (wState (sZ 2) k (vZ 2) (nZ 2) (aZ 2)), (wState (sZ 3) k (vZ 3) (nZ 3) (aZ 3)), (wState (sZ 4) k (vZ 4) (nZ 4) (aZ 4)), (wState (sZ 5) k (vZ 5) (nZ 5) (aZ 5)), (wState (sZ 6) k (vZ 6) (nZ 6) (aZ 6)), (wState (sZ 7) k (vZ 7) (nZ 7) (aZ 7))] ++ List.flatten [(wSag qX k tapeX (qV 0) actsX (qN 0) (qP 0) storyX (qZ 0) orderSearchX routeSearchX setSearchX probeX slot0X slot1X slot2X slot3X image0X image1X image2X aX), (wValley qV k vV bV cV wV aV eV), (wPlan qN k vN aN eN), (wStoO qZ k (qV 0) (qP 0) (sZ 0 0) (sZ 1 0) (sZ 2 0) (sZ 3 0) (sZ 4 0) (sZ 5 0) (sZ 6 0) (sZ 7 0))]) U.heap ∧ va_K (dC, dI) vwCl (tK k) U ∧ va_D (fun _ => True) (List.flatten [(wPlan qP k vP aP eP), (wState (sZ 0) k (vZ 0) (nZ 0) (aZ 0)), (wState (sZ 1) k (vZ 1) (nZ 1) (aZ 1)), (wState (sZ 2) k (vZ 2) (nZ 2) (aZ 2)), (wState (sZ 3) k (vZ 3) (nZ 3) (aZ 3)), (wState (sZ 4) k (vZ 4) (nZ 4) (aZ 4)), (wState (sZ 5) k (vZ 5) (nZ 5) (aZ 5)), (wState (sZ 6) k (vZ 6) (nZ 6) (aZ 6)), (wState (sZ 7) k (vZ 7) (nZ 7) (aZ 7))] ++ List.flatten [(wSag qX k tapeX (qV 0) actsX (qN 0) (qP 0) storyX (qZ 0) orderSearchX routeSearchX setSearchX probeX slot0X slot1X slot2X slot3X image0X image1X image2X aX), (wValley qV k vV bV cV wV aV eV), (wPlan qN k vN aN eN), (wStoO qZ k (qV 0) (qP 0) (sZ 0 0) (sZ 1 0) (sZ 2 0) (sZ 3 0) (sZ 4 0) (sZ 5 0) (sZ 6 0) (sZ 7 0))]))) (va_Qi (fun (r : Int32) (_ : Unit) => True) (fun (_ : Unit) (t : State) => ∃ (vP' : Nat → Int32) (aP' : Nat → Nat → Int32) (eP' : Nat → Nat → Int32) (vZ' : Nat → Nat → Int32) (nZ' : Nat → Nat → Int32) (aZ' : Nat → Nat → Nat → Int32), RgA 0 99 eP' ∧ (∀ t9, Rg 0 8 (nZ' t9)) ∧ va_P (dC, dI) vwCl (List.flatten [(wPlan qP k vP' aP' eP'), (wState (sZ 0) k (vZ' 0) (nZ' 0) (aZ' 0)), (wState (sZ 1) k (vZ' 1) (nZ' 1) (aZ' 1)), (wState (sZ 2) k (vZ' 2) (nZ' 2) (aZ' 2)), (wState (sZ 3) k (vZ' 3) (nZ' 3) (aZ' 3)), (wState (sZ 4) k (vZ' 4) (nZ' 4) (aZ' 4)), (wState (sZ 5) k (vZ' 5) (nZ' 5) (aZ' 5)), (wState (sZ 6) k (vZ' 6) (nZ' 6) (aZ' 6)), (wState (sZ 7) k (vZ' 7) (nZ' 7) (aZ' 7))] ++ List.flatten [(wSag qX k tapeX (qV 0) actsX (qN 0) (qP 0) storyX (qZ 0) orderSearchX routeSearchX setSearchX probeX slot0X slot1X slot2X slot3X image0X image1X image2X aX), (wValley qV k vV bV cV wV aV eV), (wPlan qN k vN aN eN), (wStoO qZ k (qV 0) (qP 0) (sZ 0 0) (sZ 1 0) (sZ 2 0) (sZ 3 0) (sZ 4 0) (sZ 5 0) (sZ 6 0) (sZ 7 0))]) t.heap) (va_A (List.flatten [(wPlan qP k vP aP eP), (wState (sZ 0) k (vZ 0) (nZ 0) (aZ 0)), (wState (sZ 1) k (vZ 1) (nZ 1) (aZ 1)), (wState (sZ 2) k (vZ 2) (nZ 2) (aZ 2)), (wState (sZ 3) k (vZ 3) (nZ 3) (aZ 3)), (wState (sZ 4) k (vZ 4) (nZ 4) (aZ 4)), (wState (sZ 5) k (vZ 5) (nZ 5) (aZ 5)), (wState (sZ 6) k (vZ 6) (nZ 6) (aZ 6)), (wState (sZ 7) k (vZ 7) (nZ 7) (aZ 7))] ++ List.flatten [(wSag qX k tapeX (qV 0) actsX (qN 0) (qP 0) storyX (qZ 0) orderSearchX routeSearchX setSearchX probeX slot0X slot1X slot2X slot3X image0X image1X image2X aX), (wValley qV k vV bV cV wV aV eV), (wPlan qN k vN aN eN), (wStoO qZ k (qV 0) (qP 0) (sZ 0 0) (sZ 1 0) (sZ 2 0) (sZ 3 0) (sZ 4 0) (sZ 5 0) (sZ 6 0) (sZ 7 0))]) sz)) 0 0 (va_A (List.flatten [(wPlan qP k vP aP eP), (wState (sZ 0) k (vZ 0) (nZ 0) (aZ 0)), (wState (sZ 1) k (vZ 1) (nZ 1) (aZ 1)), (wState (sZ 2) k (vZ 2) (nZ 2) (aZ 2)), (wState (sZ 3) k (vZ 3) (nZ 3) (aZ 3)), (wState (sZ 4) k (vZ 4) (nZ 4) (aZ 4)), (wState (sZ 5) k (vZ 5) (nZ 5) (aZ 5)), (wState (sZ 6) k (vZ 6) (nZ 6) (aZ 6)), (wState (sZ 7) k (vZ 7) (nZ 7) (aZ 7))] ++ List.flatten [(wSag qX k tapeX (qV 0) actsX (qN 0) (qP 0) storyX (qZ 0) orderSearchX routeSearchX setSearchX probeX slot0X slot1X slot2X slot3X image0X image1X image2X aX), (wValley qV k vV bV cV wV aV eV), (wPlan qN k vN aN eN), (wStoO qZ k (qV 0) (qP 0) (sZ 0 0) (sZ 1 0) (sZ 2 0) (sZ 3 0) (sZ 4 0) (sZ 5 0) (sZ 6 0) (sZ 7 0))]) sz) := by
  refine Met.ofW (cc := cX11_sagOfSet) (maxL := 3) (ret := (some .int)) (by decide) rfl ?_
  intro p e s m args below meth c s₁ B hml hv
  obtain ⟨rfl, hsz, hP, hK, hD0⟩ := hv
  have hx := B.exec
  have hb := B.bytes
  have hr := B.returns
  have hts := atoms_spec (ws := wk_c_X11_sagOfSet) B.pre
  have hown : s.vm.findClass RX11 = some m.cls := findClass_of_methodNamed B.named
  have hlocks := B.notSynchronized
  subst hsz
  have hD := hD0.self (sz := s.heap.size)
  generalize hAe : va_A (List.flatten [(wPlan qP k vP aP eP), (wState (sZ 0) k (vZ 0) (nZ 0) (aZ 0)), (wState (sZ 1) k (vZ 1) (nZ 1) (aZ 1)), (wState (sZ 2) k (vZ 2) (nZ 2) (aZ 2)), (wState (sZ 3) k (vZ 3) (nZ 3) (aZ 3)), (wState (sZ 4) k (vZ 4) (nZ 4) (aZ 4)), (wState (sZ 5) k (vZ 5) (nZ 5) (aZ 5)), (wState (sZ 6) k (vZ 6) (nZ 6) (aZ 6)), (wState (sZ 7) k (vZ 7) (nZ 7) (aZ 7))] ++ List.flatten [(wSag qX k tapeX (qV 0) actsX (qN 0) (qP 0) storyX (qZ 0) orderSearchX routeSearchX setSearchX probeX slot0X slot1X slot2X slot3X image0X image1X image2X aX), (wValley qV k vV bV cV wV aV eV), (wPlan qN k vN aN eN), (wStoO qZ k (qV 0) (qP 0) (sZ 0 0) (sZ 1 0) (sZ 2 0) (sZ 3 0) (sZ 4 0) (sZ 5 0) (sZ 6 0) (sZ 7 0))]) s.heap.size = A at hD ⊢
  have hA : ∀ q : Nat, s.heap.size ≤ q → A q := fun q h => by rw [← hAe]; exact Or.inr h
  have hS : va_S A s.heap s.heap [] := va_S.rf
  have hP : va_P (dC, dI) vwCl (List.flatten [(wPlan qP k vP aP eP), (wState (sZ 0) k (vZ 0) (nZ 0) (aZ 0)), (wState (sZ 1) k (vZ 1) (nZ 1) (aZ 1)), (wState (sZ 2) k (vZ 2) (nZ 2) (aZ 2)), (wState (sZ 3) k (vZ 3) (nZ 3) (aZ 3)), (wState (sZ 4) k (vZ 4) (nZ 4) (aZ 4)), (wState (sZ 5) k (vZ 5) (nZ 5) (aZ 5)), (wState (sZ 6) k (vZ 6) (nZ 6) (aZ 6)), (wState (sZ 7) k (vZ 7) (nZ 7) (aZ 7))] ++ List.flatten [(wSag qX k tapeX (qV 0) actsX (qN 0) (qP 0) storyX (qZ 0) orderSearchX routeSearchX setSearchX probeX slot0X slot1X slot2X slot3X image0X image1X image2X aX), (wValley qV k vV bV cV wV aV eV), (wPlan qN k vN aN eN), (wStoO qZ k (qV 0) (qP 0) (sZ 0 0) (sZ 1 0) (sZ 2 0) (sZ 3 0) (sZ 4 0) (sZ 5 0) (sZ 6 0) (sZ 7 0))]) s.heap := hP
  have hl := lv_entry ([.ref (qX 0), .int p1]) (n := 3) (Nat.le_of_ble_eq_true rfl)
  rw [lg_entry_eq]
  generalize (lg_sl ([.ref (qX 0), .int p1]) ++ List.replicate (3 - (lg_sl ([.ref (qX 0), .int p1])).length) Slot.unset).toArray = ls at hl ⊢
  have hl : lv_has ls 3 [(0, .ref (qX 0)), (1, .int p1)] := hl
  refine w_gen (fun Q hQ => ?_)
  refine lv_aload_n hx hb dX11_sagOfSet_0 rfl (lv_at hl 0 rfl) ?_
  refine va_get (D := (dC, dI)) (ci := 11) (v := .ref (qP 0)) (C := RX11) (T := TX11) (N := 15) hx hb hts (fun w h => List.mem_cons_of_mem _ (List.mem_append_right _ (List.mem_append_left _ h))) hown hK hP 91 rfl rfl 4 (by decide) (hts (.fieldLink RX11 37 "SagMemory" "trial" "LSagMemory$Plan;") (wl_mem 0 rfl)) (fun _ h9 => h9) rfl dX11_sagOfSet_1 ?_
  refine lv_aload_n hx hb dX11_sagOfSet_4 rfl (lv_at hl 0 rfl) ?_
  refine va_get (D := (dC, dI)) (ci := 11) (v := .ref (qN 0)) (C := RX11) (T := TX11) (N := 15) hx hb hts (fun w h => List.mem_cons_of_mem _ (List.mem_append_right _ (List.mem_append_left _ h))) hown hK hP 91 rfl rfl 3 (by decide) (hts (.fieldLink RX11 33 "SagMemory" "now" "LSagMemory$Plan;") (wl_mem 1 rfl)) (fun _ h9 => h9) rfl dX11_sagOfSet_5 ?_
  have hPc := hP.sub (ws' := (List.flatten [(wPlan qP k vP aP eP)] ++ List.flatten [(wPlan qN k vN aN eN)])) [0, 1, 2, 104, 105, 106] rfl
  have hC : [0, 1, 2, 104, 105, 106].map (fun i => (List.flatten [(wPlan qP k vP aP eP), (wState (sZ 0) k (vZ 0) (nZ 0) (aZ 0)), (wState (sZ 1) k (vZ 1) (nZ 1) (aZ 1)), (wState (sZ 2) k (vZ 2) (nZ 2) (aZ 2)), (wState (sZ 3) k (vZ 3) (nZ 3) (aZ 3)), (wState (sZ 4) k (vZ 4) (nZ 4) (aZ 4)), (wState (sZ 5) k (vZ 5) (nZ 5) (aZ 5)), (wState (sZ 6) k (vZ 6) (nZ 6) (aZ 6)), (wState (sZ 7) k (vZ 7) (nZ 7) (aZ 7))] ++ List.flatten [(wSag qX k tapeX (qV 0) actsX (qN 0) (qP 0) storyX (qZ 0) orderSearchX routeSearchX setSearchX probeX slot0X slot1X slot2X slot3X image0X image1X image2X aX), (wValley qV k vV bV cV wV aV eV), (wPlan qN k vN aN eN), (wStoO qZ k (qV 0) (qP 0) (sZ 0 0) (sZ 1 0) (sZ 2 0) (sZ 3 0) (sZ 4 0) (sZ 5 0) (sZ 6 0) (sZ 7 0))])[i]?) = (List.flatten [(wPlan qP k vP aP eP)] ++ List.flatten [(wPlan qN k vN aN eN)]).map some := rfl
  have hDc := hD.sub [0, 1, 2, 104, 105, 106] (by decide) hC
  have hFc := va_free hD hS hA [0, 1, 2, 104, 105, 106] hC
  refine va_callv (va_runV (As := [.ref (qN 0)]) (rest := []) ⟨hx, hb, hml, hown, hts⟩ (c_X3_take l dC dI k s.heap.size qP vP aP eP qN vN aN eN heP heN) (cwV 1 hts (gk_V (wl_mem 2 rfl) (wl_mem 3 rfl) (wl_mem 4 rfl) (wl_mem 5 rfl) (fun w h => List.mem_cons_of_mem _ (List.mem_append_right _ (List.mem_append_right _ (List.mem_append_left _ h)))) wkg_c_X3_take) rfl rfl rfl (by decide +kernel) ⟨Nat.le_of_ble_eq_true rfl, Nat.le_of_ble_eq_true rfl⟩) ⟨fun a U g mk q => by obtain ⟨q0, q1, qP, qK, qD⟩ := q; exact ⟨q0, q1, qP, va_K.moved (u := U) (U := U.calling g mk a) (Vm.Alike.refl U.vm) qK, qD⟩, va_recv hK hPc (ci := 3) (q0 := 0) rfl rfl, fun U hU hW => ⟨rfl, by rw [hU], by rw [hU]; exact hPc, va_K.moved hW.alike hK, hDc.weaken (fun _ _ _ _ => trivial)⟩⟩ rfl rfl hl.1 rfl (lv_room (Nat.le_of_ble_eq_true rfl)) dX11_sagOfSet_8 ⟨Nat.le_of_ble_eq_true rfl, Nat.le_of_ble_eq_true rfl⟩) hS (fun q _ h => hFc q h) hFc (fun u t H1 locs ht hvm gz1 hB hz1 hk1 hS => ?_)
  obtain ⟨vz3, az4, ez5, hez5, hP1⟩ := hB
  rw [ht] at hP1
  obtain ⟨hP, hD⟩ := w_callR hP hD hk1 hP1 [0] rfl rfl (wk_memC [11] rfl) rfl [some 0, none, none, none, none, none, none, none, none] rfl rfl
  clear hPc hC hDc hFc hk1 hP1
  generalize H1 = H at hP hS ⊢
  have hP : va_P (dC, dI) vwCl (List.flatten [(wPlan qP k vz3 az4 ez5), (wState (sZ 0) k (vZ 0) (nZ 0) (aZ 0)), (wState (sZ 1) k (vZ 1) (nZ 1) (aZ 1)), (wState (sZ 2) k (vZ 2) (nZ 2) (aZ 2)), (wState (sZ 3) k (vZ 3) (nZ 3) (aZ 3)), (wState (sZ 4) k (vZ 4) (nZ 4) (aZ 4)), (wState (sZ 5) k (vZ 5) (nZ 5) (aZ 5)), (wState (sZ 6) k (vZ 6) (nZ 6) (aZ 6)), (wState (sZ 7) k (vZ 7) (nZ 7) (aZ 7))] ++ List.flatten [(wSag qX k tapeX (qV 0) actsX (qN 0) (qP 0) storyX (qZ 0) orderSearchX routeSearchX setSearchX probeX slot0X slot1X slot2X slot3X image0X image1X image2X aX), (wValley qV k vV bV cV wV aV eV), (wPlan qN k vN aN eN), (wStoO qZ k (qV 0) (qP 0) (sZ 0 0) (sZ 1 0) (sZ 2 0) (sZ 3 0) (sZ 4 0) (sZ 5 0) (sZ 6 0) (sZ 7 0))]) H := hP
  have hD : va_D A (List.flatten [(wPlan qP k vz3 az4 ez5), (wState (sZ 0) k (vZ 0) (nZ 0) (aZ 0)), (wState (sZ 1) k (vZ 1) (nZ 1) (aZ 1)), (wState (sZ 2) k (vZ 2) (nZ 2) (aZ 2)), (wState (sZ 3) k (vZ 3) (nZ 3) (aZ 3)), (wState (sZ 4) k (vZ 4) (nZ 4) (aZ 4)), (wState (sZ 5) k (vZ 5) (nZ 5) (aZ 5)), (wState (sZ 6) k (vZ 6) (nZ 6) (aZ 6)), (wState (sZ 7) k (vZ 7) (nZ 7) (aZ 7))] ++ List.flatten [(wSag qX k tapeX (qV 0) actsX (qN 0) (qP 0) storyX (qZ 0) orderSearchX routeSearchX setSearchX probeX slot0X slot1X slot2X slot3X image0X image1X image2X aX), (wValley qV k vV bV cV wV aV eV), (wPlan qN k vN aN eN), (wStoO qZ k (qV 0) (qP 0) (sZ 0 0) (sZ 1 0) (sZ 2 0) (sZ 3 0) (sZ 4 0) (sZ 5 0) (sZ 6 0) (sZ 7 0))]) := hD
  refine W.widen (k := 0) (n := 0) (Nat.le_refl 0) (Nat.le_refl 0) ?_
  refine lv_iconst (v := 0) hx hb dX11_sagOfSet_11 (by decide) ?_
  refine lv_istore_n (lv' := [(2, .int 0), (0, .ref (qX 0)), (1, .int p1)]) hx hb dX11_sagOfSet_12 rfl hl (by decide) rfl (fun ls hl => ?_)
  have lp13_kz34 : ∀ (n9_13 : Nat) (H : Heap) (locs : List Loc) (ls : Array Slot) (az32 : Nat → Nat → Int32) (xz33 : Int32), (2147483647 - xz33.toInt).toNat < n9_13 → 0 ≤ xz33.toInt → va_P (dC, dI) vwCl (List.flatten [(wPlan qP k vz3 az32 ez5), (wState (sZ 0) k (vZ 0) (nZ 0) (aZ 0)), (wState (sZ 1) k (vZ 1) (nZ 1) (aZ 1)), (wState (sZ 2) k (vZ 2) (nZ 2) (aZ 2)), (wState (sZ 3) k (vZ 3) (nZ 3) (aZ 3)), (wState (sZ 4) k (vZ 4) (nZ 4) (aZ 4)), (wState (sZ 5) k (vZ 5) (nZ 5) (aZ 5)), (wState (sZ 6) k (vZ 6) (nZ 6) (aZ 6)), (wState (sZ 7) k (vZ 7) (nZ 7) (aZ 7))] ++ List.flatten [(wSag qX k tapeX (qV 0) actsX (qN 0) (qP 0) storyX (qZ 0) orderSearchX routeSearchX setSearchX probeX slot0X slot1X slot2X slot3X image0X image1X image2X aX), (wValley qV k vV bV cV wV aV eV), (wPlan qN k vN aN eN), (wStoO qZ k (qV 0) (qP 0) (sZ 0 0) (sZ 1 0) (sZ 2 0) (sZ 3 0) (sZ 4 0) (sZ 5 0) (sZ 6 0) (sZ 7 0))]) H → va_D A (List.flatten [(wPlan qP k vz3 az32 ez5), (wState (sZ 0) k (vZ 0) (nZ 0) (aZ 0)), (wState (sZ 1) k (vZ 1) (nZ 1) (aZ 1)), (wState (sZ 2) k (vZ 2) (nZ 2) (aZ 2)), (wState (sZ 3) k (vZ 3) (nZ 3) (aZ 3)), (wState (sZ 4) k (vZ 4) (nZ 4) (aZ 4)), (wState (sZ 5) k (vZ 5) (nZ 5) (aZ 5)), (wState (sZ 6) k (vZ 6) (nZ 6) (aZ 6)), (wState (sZ 7) k (vZ 7) (nZ 7) (aZ 7))] ++ List.flatten [(wSag qX k tapeX (qV 0) actsX (qN 0) (qP 0) storyX (qZ 0) orderSearchX routeSearchX setSearchX probeX slot0X slot1X slot2X slot3X image0X image1X image2X aX), (wValley qV k vV bV cV wV aV eV), (wPlan qN k vN aN eN), (wStoO qZ k (qV 0) (qP 0) (sZ 0 0) (sZ 1 0) (sZ 2 0) (sZ 3 0) (sZ 4 0) (sZ 5 0) (sZ 6 0) (sZ 7 0))]) → va_S A s.heap H locs → lv_has ls 3 [(0, .ref (qX 0)), (1, .int p1), (2, .int xz33)] → W p l e (headSpec wk_c_X11_sagOfSet ({ frames := 4, cells := 0, slots := 0, locals := 152 })).room s m ([.ref (qX 0), .int p1] : List Value).toArray below meth c H locs 0 0 Q (F0 m 13 ls []) := by
    intro n9_13
    induction n9_13 with
    | zero => intro H locs ls az32 xz33 hm; exact absurd hm (Nat.not_lt_zero _)
    | succ n9_13 ih13 =>
      intro H locs ls az32 xz33 hm13 jz35 hP hD hS hl
      refine lv_iload_n hx hb dX11_sagOfSet_13 rfl (lv_at hl 2 rfl) ?_
      refine lv_aload_n hx hb dX11_sagOfSet_14 rfl (lv_at hl 0 rfl) ?_
      refine va_get (D := (dC, dI)) (ci := 11) (v := .ref (qV 0)) (C := RX11) (T := TX11) (N := 15) hx hb hts (fun w h => List.mem_cons_of_mem _ (List.mem_append_right _ (List.mem_append_left _ h))) hown hK hP 91 rfl rfl 1 (by decide) (hts (.fieldLink RX11 19 "SagMemory" "told" "LSagMemory$Valley;") (wl_mem 6 rfl)) (fun _ h9 => h9) rfl dX11_sagOfSet_15 ?_
      refine va_get (D := (dC, dI)) (ci := 10) (v := .int (cV 0)) (C := RX10) (T := TX10) (N := 16) hx hb hts (fun w h => List.mem_cons_of_mem _ (List.mem_append_right _ (List.mem_append_right _ (List.mem_append_right _ (List.mem_append_left _ h))))) hown hK hP 96 rfl rfl 12 (by decide) (hts (.fieldLink RX11 177 "SagMemory$Valley" "carts" "I") (wl_mem 7 rfl)) (fun _ h9 => h9) rfl dX11_sagOfSet_18 ?_
      have bz36 := hcV 0
      refine lv_icmp_ge (tgt := 48) hx hb dX11_sagOfSet_21 (by decide) (fun cz37 => ?_) (fun cz37 => ?_)
      · skip
        have bz38 := fb_rng xz33
        have zz39 : (cV 0).toInt ≤ xz33.toInt := zi_le.mp cz37
        refine lv_aload_n hx hb dX11_sagOfSet_48 rfl (lv_at hl 0 rfl) ?_
        refine va_get (D := (dC, dI)) (ci := 11) (v := .ref (qZ 0)) (C := RX11) (T := TX11) (N := 15) hx hb hts (fun w h => List.mem_cons_of_mem _ (List.mem_append_right _ (List.mem_append_left _ h))) hown hK hP 91 rfl rfl 6 (by decide) (hts (.fieldLink RX11 49 "SagMemory" "attempt" "LSagMemory$Story;") (wl_mem 9 rfl)) (fun _ h9 => h9) rfl dX11_sagOfSet_49 ?_
        have hPc : va_P (dC, dI) vwCl (List.flatten [(wState (sZ 0) k (vZ 0) (nZ 0) (aZ 0)), (wState (sZ 1) k (vZ 1) (nZ 1) (aZ 1)), (wState (sZ 2) k (vZ 2) (nZ 2) (aZ 2)), (wState (sZ 3) k (vZ 3) (nZ 3) (aZ 3)), (wState (sZ 4) k (vZ 4) (nZ 4) (aZ 4)), (wState (sZ 5) k (vZ 5) (nZ 5) (aZ 5)), (wState (sZ 6) k (vZ 6) (nZ 6) (aZ 6)), (wState (sZ 7) k (vZ 7) (nZ 7) (aZ 7))] ++ List.flatten [(wStoO qZ k (qV 0) (qP 0) (sZ 0 0) (sZ 1 0) (sZ 2 0) (sZ 3 0) (sZ 4 0) (sZ 5 0) (sZ 6 0) (sZ 7 0)), (wValley qV k vV bV cV wV aV eV), (wPlan qP k vz3 az32 ez5)]) H := wc_subP hP [1, 2, 3, 4, 5, 6, 7, 8, 12, 10, 0] rfl
        have hDc : va_D A (List.flatten [(wState (sZ 0) k (vZ 0) (nZ 0) (aZ 0)), (wState (sZ 1) k (vZ 1) (nZ 1) (aZ 1)), (wState (sZ 2) k (vZ 2) (nZ 2) (aZ 2)), (wState (sZ 3) k (vZ 3) (nZ 3) (aZ 3)), (wState (sZ 4) k (vZ 4) (nZ 4) (aZ 4)), (wState (sZ 5) k (vZ 5) (nZ 5) (aZ 5)), (wState (sZ 6) k (vZ 6) (nZ 6) (aZ 6)), (wState (sZ 7) k (vZ 7) (nZ 7) (aZ 7))] ++ List.flatten [(wStoO qZ k (qV 0) (qP 0) (sZ 0 0) (sZ 1 0) (sZ 2 0) (sZ 3 0) (sZ 4 0) (sZ 5 0) (sZ 6 0) (sZ 7 0)), (wValley qV k vV bV cV wV aV eV), (wPlan qP k vz3 az32 ez5)]) := wc_subD hD [1, 2, 3, 4, 5, 6, 7, 8, 12, 10, 0] rfl rfl
        have hFc := wc_free hDc hS hA
        refine va_callv (va_runV (As := []) (rest := []) ⟨hx, hb, hml, hown, hts⟩ (c_X8_tell l dC dI k H.size qZ sZ vZ nZ aZ qV vV bV cV wV aV eV qP vz3 az32 ez5 hnZ hbV hcV hwV heV hez5) (cwV 0 hts (gk_V (wl_mem 10 rfl) (wl_mem 11 rfl) (wl_mem 12 rfl) (wl_mem 13 rfl) (fun w h => List.mem_cons_of_mem _ (List.mem_append_right _ (List.mem_append_right _ (List.mem_append_right _ (List.mem_append_right _ (List.mem_append_right _ (List.mem_append_left _ h))))))) wkg_c_X8_tell) rfl rfl rfl (by decide +kernel) ⟨Nat.le_of_ble_eq_true rfl, Nat.le_of_ble_eq_true rfl⟩) ⟨fun a U g mk q => by obtain ⟨q0, q1, qP, qK, qD⟩ := q; exact ⟨q0, q1, qP, va_K.moved (u := U) (U := U.calling g mk a) (Vm.Alike.refl U.vm) qK, qD⟩, va_recv hK hPc (ci := 8) (q0 := 88) rfl rfl, fun U hU hW => ⟨rfl, by rw [hU], by rw [hU]; exact hPc, va_K.moved hW.alike hK, hDc.weaken (fun _ _ _ _ => trivial)⟩⟩ rfl rfl hl.1 rfl (lv_room (Nat.le_of_ble_eq_true rfl)) dX11_sagOfSet_52 ⟨Nat.le_of_ble_eq_true rfl, Nat.le_of_ble_eq_true rfl⟩) hS (fun q _ h => hFc q h) hFc (fun u t H1 locs ht hvm gz40 hB hz1 hk1 hS => ?_)
        obtain ⟨vz42, nz43, az44, hnz43, hP1⟩ := hB
        rw [ht] at hP1
        obtain ⟨hP, hD⟩ := w_callR hP hD hk1 hP1 [1, 2, 3, 4, 5, 6, 7, 8] rfl rfl (wk_memC [12, 10, 0] rfl) rfl [none, some 0, some 1, some 2, some 3, some 4, some 5, some 6, some 7] rfl rfl
        clear hPc hDc hFc hk1 hP1
        generalize H1 = H at hP hS ⊢
        have hP : va_P (dC, dI) vwCl (List.flatten [(wPlan qP k vz3 az32 ez5), (wState (sZ 0) k (vz42 0) (nz43 0) (az44 0)), (wState (sZ 1) k (vz42 1) (nz43 1) (az44 1)), (wState (sZ 2) k (vz42 2) (nz43 2) (az44 2)), (wState (sZ 3) k (vz42 3) (nz43 3) (az44 3)), (wState (sZ 4) k (vz42 4) (nz43 4) (az44 4)), (wState (sZ 5) k (vz42 5) (nz43 5) (az44 5)), (wState (sZ 6) k (vz42 6) (nz43 6) (az44 6)), (wState (sZ 7) k (vz42 7) (nz43 7) (az44 7))] ++ List.flatten [(wSag qX k tapeX (qV 0) actsX (qN 0) (qP 0) storyX (qZ 0) orderSearchX routeSearchX setSearchX probeX slot0X slot1X slot2X slot3X image0X image1X image2X aX), (wValley qV k vV bV cV wV aV eV), (wPlan qN k vN aN eN), (wStoO qZ k (qV 0) (qP 0) (sZ 0 0) (sZ 1 0) (sZ 2 0) (sZ 3 0) (sZ 4 0) (sZ 5 0) (sZ 6 0) (sZ 7 0))]) H := hP
        have hD : va_D A (List.flatten [(wPlan qP k vz3 az32 ez5), (wState (sZ 0) k (vz42 0) (nz43 0) (az44 0)), (wState (sZ 1) k (vz42 1) (nz43 1) (az44 1)), (wState (sZ 2) k (vz42 2) (nz43 2) (az44 2)), (wState (sZ 3) k (vz42 3) (nz43 3) (az44 3)), (wState (sZ 4) k (vz42 4) (nz43 4) (az44 4)), (wState (sZ 5) k (vz42 5) (nz43 5) (az44 5)), (wState (sZ 6) k (vz42 6) (nz43 6) (az44 6)), (wState (sZ 7) k (vz42 7) (nz43 7) (az44 7))] ++ List.flatten [(wSag qX k tapeX (qV 0) actsX (qN 0) (qP 0) storyX (qZ 0) orderSearchX routeSearchX setSearchX probeX slot0X slot1X slot2X slot3X image0X image1X image2X aX), (wValley qV k vV bV cV wV aV eV), (wPlan qN k vN aN eN), (wStoO qZ k (qV 0) (qP 0) (sZ 0 0) (sZ 1 0) (sZ 2 0) (sZ 3 0) (sZ 4 0) (sZ 5 0) (sZ 6 0) (sZ 7 0))]) := hD
        refine W.widen (k := 0) (n := 0) (Nat.le_refl 0) (Nat.le_refl 0) ?_
        refine lv_aload_n hx hb dX11_sagOfSet_55 rfl (lv_at hl 0 rfl) ?_
        refine va_get (D := (dC, dI)) (ci := 11) (v := .ref (qZ 0)) (C := RX11) (T := TX11) (N := 15) hx hb hts (fun w h => List.mem_cons_of_mem _ (List.mem_append_right _ (List.mem_append_left _ h))) hown hK hP 91 rfl rfl 6 (by decide) (hts (.fieldLink RX11 49 "SagMemory" "attempt" "LSagMemory$Story;") (wl_mem 9 rfl)) (fun _ h9 => h9) rfl dX11_sagOfSet_56 ?_
        have hPc : va_P (dC, dI) vwCl (List.flatten [(wStoO qZ k (qV 0) (qP 0) (sZ 0 0) (sZ 1 0) (sZ 2 0) (sZ 3 0) (sZ 4 0) (sZ 5 0) (sZ 6 0) (sZ 7 0)), (wState (sZ 0) k (vz42 0) (nz43 0) (az44 0)), (wState (sZ 1) k (vz42 1) (nz43 1) (az44 1)), (wState (sZ 2) k (vz42 2) (nz43 2) (az44 2)), (wState (sZ 3) k (vz42 3) (nz43 3) (az44 3)), (wState (sZ 4) k (vz42 4) (nz43 4) (az44 4)), (wState (sZ 5) k (vz42 5) (nz43 5) (az44 5)), (wState (sZ 6) k (vz42 6) (nz43 6) (az44 6)), (wState (sZ 7) k (vz42 7) (nz43 7) (az44 7)), (wValley qV k vV bV cV wV aV eV)]) H := wc_subP1 hP [12, 1, 2, 3, 4, 5, 6, 7, 8, 10] rfl
        refine va_csr (va_Run.run (va_runV (As := []) (rest := []) ⟨hx, hb, hml, hown, hts⟩ (c_X8_atEnd l dC dI k qZ sZ (qP 0) vz42 nz43 az44 qV vV bV cV wV aV eV hnz43 hbV hcV hwV heV) (cwV 0 hts (gk_V (wl_mem 14 rfl) (wl_mem 15 rfl) (wl_mem 16 rfl) (wl_mem 13 rfl) (fun w h => List.mem_cons_of_mem _ (List.mem_append_right _ (List.mem_append_right _ (List.mem_append_right _ (List.mem_append_right _ (List.mem_append_right _ (List.mem_append_right _ (List.mem_append_left _ h)))))))) wkg_c_X8_atEnd) rfl rfl rfl (by decide +kernel) ⟨Nat.le_of_ble_eq_true rfl, Nat.le_of_ble_eq_true rfl⟩) ⟨fun a U g mk q => by obtain ⟨q0, qP, qK⟩ := q; exact ⟨q0, qP, va_K.moved (u := U) (U := U.calling g mk a) (Vm.Alike.refl U.vm) qK⟩, va_recv hK hPc (ci := 8) (q0 := 0) rfl rfl, fun U hU hW => ⟨rfl, by rw [hU]; exact hPc, va_K.moved hW.alike hK⟩⟩ rfl rfl hl.1 rfl (lv_room (Nat.le_of_ble_eq_true rfl)) dX11_sagOfSet_59 ⟨Nat.le_of_ble_eq_true rfl, Nat.le_of_ble_eq_true rfl⟩)) (fun rz46 gz45 => ?_)
        clear hPc
        rcases gz45 with rfl | rfl | rfl | rfl | rfl | rfl | rfl | rfl
        · skip
          refine W.eq (g2 := F0 m 62 ls [.ref (sZ 0 0)]) rfl ?_
          have hPc := hP.sub (ws' := (List.flatten [(wState (sZ 0) k (vz42 0) (nz43 0) (az44 0))])) [3, 4, 5, 6, 7, 8, 9, 10, 11, 12, 13] rfl
          refine vp_callSi (va_Run.run (va_runV (As := []) (rest := []) ⟨hx, hb, hml, hown, hts⟩ (c_X7_together l dC dI k (sZ 0) (vz42 0) (nz43 0) (az44 0) (hnz43 0)) (cwV 0 hts (gk_V (wl_mem 17 rfl) (wl_mem 18 rfl) (wl_mem 19 rfl) (wl_mem 20 rfl) (fun w h => List.mem_cons_of_mem _ (List.mem_append_right _ (List.mem_append_right _ (List.mem_append_right _ (List.mem_append_right _ (List.mem_append_right _ (List.mem_append_right _ (List.mem_append_right _ (List.mem_append_left _ h))))))))) wkg_c_X7_together) rfl rfl rfl (by decide +kernel) ⟨Nat.le_of_ble_eq_true rfl, Nat.le_of_ble_eq_true rfl⟩) ⟨fun a U g mk q => by obtain ⟨q0, qP, qK⟩ := q; exact ⟨q0, qP, va_K.moved (u := U) (U := U.calling g mk a) (Vm.Alike.refl U.vm) qK⟩, va_recv hK hPc (ci := 7) (q0 := 0) rfl rfl, fun U hU hW => ⟨rfl, by rw [hU]; exact hPc, va_K.moved hW.alike hK⟩⟩ rfl rfl hl.1 rfl (lv_room (Nat.le_of_ble_eq_true rfl)) dX11_sagOfSet_62 ⟨Nat.le_of_ble_eq_true rfl, Nat.le_of_ble_eq_true rfl⟩)) (fun rz48 gz47 => ?_)
          clear hPc
          rw [hQ]
          exact W.iret (v := rz48) hx hb hr (fun t ht hW => ⟨⟨rz48, (), rfl, trivial, vz3, az32, ez5, vz42, nz43, az44, hez5, hnz43, by rw [ht]; exact hP⟩, hS.F ht⟩) hS.2.2 dX11_sagOfSet_65
        · skip
          refine W.eq (g2 := F0 m 62 ls [.ref (sZ 1 0)]) rfl ?_
          have hPc := hP.sub (ws' := (List.flatten [(wState (sZ 1) k (vz42 1) (nz43 1) (az44 1))])) [14, 15, 16, 17, 18, 19, 20, 21, 22, 23, 24] rfl
          refine vp_callSi (va_Run.run (va_runV (As := []) (rest := []) ⟨hx, hb, hml, hown, hts⟩ (c_X7_together l dC dI k (sZ 1) (vz42 1) (nz43 1) (az44 1) (hnz43 1)) (cwV 0 hts (gk_V (wl_mem 17 rfl) (wl_mem 18 rfl) (wl_mem 19 rfl) (wl_mem 20 rfl) (fun w h => List.mem_cons_of_mem _ (List.mem_append_right _ (List.mem_append_right _ (List.mem_append_right _ (List.mem_append_right _ (List.mem_append_right _ (List.mem_append_right _ (List.mem_append_right _ (List.mem_append_left _ h))))))))) wkg_c_X7_together) rfl rfl rfl (by decide +kernel) ⟨Nat.le_of_ble_eq_true rfl, Nat.le_of_ble_eq_true rfl⟩) ⟨fun a U g mk q => by obtain ⟨q0, qP, qK⟩ := q; exact ⟨q0, qP, va_K.moved (u := U) (U := U.calling g mk a) (Vm.Alike.refl U.vm) qK⟩, va_recv hK hPc (ci := 7) (q0 := 0) rfl rfl, fun U hU hW => ⟨rfl, by rw [hU]; exact hPc, va_K.moved hW.alike hK⟩⟩ rfl rfl hl.1 rfl (lv_room (Nat.le_of_ble_eq_true rfl)) dX11_sagOfSet_62 ⟨Nat.le_of_ble_eq_true rfl, Nat.le_of_ble_eq_true rfl⟩)) (fun rz50 gz49 => ?_)
          clear hPc
          rw [hQ]
          exact W.iret (v := rz50) hx hb hr (fun t ht hW => ⟨⟨rz50, (), rfl, trivial, vz3, az32, ez5, vz42, nz43, az44, hez5, hnz43, by rw [ht]; exact hP⟩, hS.F ht⟩) hS.2.2 dX11_sagOfSet_65
        · skip
          refine W.eq (g2 := F0 m 62 ls [.ref (sZ 2 0)]) rfl ?_
          have hPc := hP.sub (ws' := (List.flatten [(wState (sZ 2) k (vz42 2) (nz43 2) (az44 2))])) [25, 26, 27, 28, 29, 30, 31, 32, 33, 34, 35] rfl
          refine vp_callSi (va_Run.run (va_runV (As := []) (rest := []) ⟨hx, hb, hml, hown, hts⟩ (c_X7_together l dC dI k (sZ 2) (vz42 2) (nz43 2) (az44 2) (hnz43 2)) (cwV 0 hts (gk_V (wl_mem 17 rfl) (wl_mem 18 rfl) (wl_mem 19 rfl) (wl_mem 20 rfl) (fun w h => List.mem_cons_of_mem _ (List.mem_append_right _ (List.mem_append_right _ (List.mem_append_right _ (List.mem_append_right _ (List.mem_append_right _ (List.mem_append_right _ (List.mem_append_right _ (List.mem_append_left _ h))))))))) wkg_c_X7_together) rfl rfl rfl (by decide +kernel) ⟨Nat.le_of_ble_eq_true rfl, Nat.le_of_ble_eq_true rfl⟩) ⟨fun a U g mk q => by obtain ⟨q0, qP, qK⟩ := q; exact ⟨q0, qP, va_K.moved (u := U) (U := U.calling g mk a) (Vm.Alike.refl U.vm) qK⟩, va_recv hK hPc (ci := 7) (q0 := 0) rfl rfl, fun U hU hW => ⟨rfl, by rw [hU]; exact hPc, va_K.moved hW.alike hK⟩⟩ rfl rfl hl.1 rfl (lv_room (Nat.le_of_ble_eq_true rfl)) dX11_sagOfSet_62 ⟨Nat.le_of_ble_eq_true rfl, Nat.le_of_ble_eq_true rfl⟩)) (fun rz52 gz51 => ?_)
          clear hPc
          rw [hQ]
          exact W.iret (v := rz52) hx hb hr (fun t ht hW => ⟨⟨rz52, (), rfl, trivial, vz3, az32, ez5, vz42, nz43, az44, hez5, hnz43, by rw [ht]; exact hP⟩, hS.F ht⟩) hS.2.2 dX11_sagOfSet_65
        · skip
          refine W.eq (g2 := F0 m 62 ls [.ref (sZ 3 0)]) rfl ?_
          have hPc := hP.sub (ws' := (List.flatten [(wState (sZ 3) k (vz42 3) (nz43 3) (az44 3))])) [36, 37, 38, 39, 40, 41, 42, 43, 44, 45, 46] rfl
          refine vp_callSi (va_Run.run (va_runV (As := []) (rest := []) ⟨hx, hb, hml, hown, hts⟩ (c_X7_together l dC dI k (sZ 3) (vz42 3) (nz43 3) (az44 3) (hnz43 3)) (cwV 0 hts (gk_V (wl_mem 17 rfl) (wl_mem 18 rfl) (wl_mem 19 rfl) (wl_mem 20 rfl) (fun w h => List.mem_cons_of_mem _ (List.mem_append_right _ (List.mem_append_right _ (List.mem_append_right _ (List.mem_append_right _ (List.mem_append_right _ (List.mem_append_right _ (List.mem_append_right _ (List.mem_append_left _ h))))))))) wkg_c_X7_together) rfl rfl rfl (by decide +kernel) ⟨Nat.le_of_ble_eq_true rfl, Nat.le_of_ble_eq_true rfl⟩) ⟨fun a U g mk q => by obtain ⟨q0, qP, qK⟩ := q; exact ⟨q0, qP, va_K.moved (u := U) (U := U.calling g mk a) (Vm.Alike.refl U.vm) qK⟩, va_recv hK hPc (ci := 7) (q0 := 0) rfl rfl, fun U hU hW => ⟨rfl, by rw [hU]; exact hPc, va_K.moved hW.alike hK⟩⟩ rfl rfl hl.1 rfl (lv_room (Nat.le_of_ble_eq_true rfl)) dX11_sagOfSet_62 ⟨Nat.le_of_ble_eq_true rfl, Nat.le_of_ble_eq_true rfl⟩)) (fun rz54 gz53 => ?_)
          clear hPc
          rw [hQ]
          exact W.iret (v := rz54) hx hb hr (fun t ht hW => ⟨⟨rz54, (), rfl, trivial, vz3, az32, ez5, vz42, nz43, az44, hez5, hnz43, by rw [ht]; exact hP⟩, hS.F ht⟩) hS.2.2 dX11_sagOfSet_65
        · skip
          refine W.eq (g2 := F0 m 62 ls [.ref (sZ 4 0)]) rfl ?_
          have hPc := hP.sub (ws' := (List.flatten [(wState (sZ 4) k (vz42 4) (nz43 4) (az44 4))])) [47, 48, 49, 50, 51, 52, 53, 54, 55, 56, 57] rfl
          refine vp_callSi (va_Run.run (va_runV (As := []) (rest := []) ⟨hx, hb, hml, hown, hts⟩ (c_X7_together l dC dI k (sZ 4) (vz42 4) (nz43 4) (az44 4) (hnz43 4)) (cwV 0 hts (gk_V (wl_mem 17 rfl) (wl_mem 18 rfl) (wl_mem 19 rfl) (wl_mem 20 rfl) (fun w h => List.mem_cons_of_mem _ (List.mem_append_right _ (List.mem_append_right _ (List.mem_append_right _ (List.mem_append_right _ (List.mem_append_right _ (List.mem_append_right _ (List.mem_append_right _ (List.mem_append_left _ h))))))))) wkg_c_X7_together) rfl rfl rfl (by decide +kernel) ⟨Nat.le_of_ble_eq_true rfl, Nat.le_of_ble_eq_true rfl⟩) ⟨fun a U g mk q => by obtain ⟨q0, qP, qK⟩ := q; exact ⟨q0, qP, va_K.moved (u := U) (U := U.calling g mk a) (Vm.Alike.refl U.vm) qK⟩, va_recv hK hPc (ci := 7) (q0 := 0) rfl rfl, fun U hU hW => ⟨rfl, by rw [hU]; exact hPc, va_K.moved hW.alike hK⟩⟩ rfl rfl hl.1 rfl (lv_room (Nat.le_of_ble_eq_true rfl)) dX11_sagOfSet_62 ⟨Nat.le_of_ble_eq_true rfl, Nat.le_of_ble_eq_true rfl⟩)) (fun rz56 gz55 => ?_)
          clear hPc
          rw [hQ]
          exact W.iret (v := rz56) hx hb hr (fun t ht hW => ⟨⟨rz56, (), rfl, trivial, vz3, az32, ez5, vz42, nz43, az44, hez5, hnz43, by rw [ht]; exact hP⟩, hS.F ht⟩) hS.2.2 dX11_sagOfSet_65
        · skip
          refine W.eq (g2 := F0 m 62 ls [.ref (sZ 5 0)]) rfl ?_
          have hPc := hP.sub (ws' := (List.flatten [(wState (sZ 5) k (vz42 5) (nz43 5) (az44 5))])) [58, 59, 60, 61, 62, 63, 64, 65, 66, 67, 68] rfl
          refine vp_callSi (va_Run.run (va_runV (As := []) (rest := []) ⟨hx, hb, hml, hown, hts⟩ (c_X7_together l dC dI k (sZ 5) (vz42 5) (nz43 5) (az44 5) (hnz43 5)) (cwV 0 hts (gk_V (wl_mem 17 rfl) (wl_mem 18 rfl) (wl_mem 19 rfl) (wl_mem 20 rfl) (fun w h => List.mem_cons_of_mem _ (List.mem_append_right _ (List.mem_append_right _ (List.mem_append_right _ (List.mem_append_right _ (List.mem_append_right _ (List.mem_append_right _ (List.mem_append_right _ (List.mem_append_left _ h))))))))) wkg_c_X7_together) rfl rfl rfl (by decide +kernel) ⟨Nat.le_of_ble_eq_true rfl, Nat.le_of_ble_eq_true rfl⟩) ⟨fun a U g mk q => by obtain ⟨q0, qP, qK⟩ := q; exact ⟨q0, qP, va_K.moved (u := U) (U := U.calling g mk a) (Vm.Alike.refl U.vm) qK⟩, va_recv hK hPc (ci := 7) (q0 := 0) rfl rfl, fun U hU hW => ⟨rfl, by rw [hU]; exact hPc, va_K.moved hW.alike hK⟩⟩ rfl rfl hl.1 rfl (lv_room (Nat.le_of_ble_eq_true rfl)) dX11_sagOfSet_62 ⟨Nat.le_of_ble_eq_true rfl, Nat.le_of_ble_eq_true rfl⟩)) (fun rz58 gz57 => ?_)
          clear hPc
          rw [hQ]
          exact W.iret (v := rz58) hx hb hr (fun t ht hW => ⟨⟨rz58, (), rfl, trivial, vz3, az32, ez5, vz42, nz43, az44, hez5, hnz43, by rw [ht]; exact hP⟩, hS.F ht⟩) hS.2.2 dX11_sagOfSet_65
        · skip
          refine W.eq (g2 := F0 m 62 ls [.ref (sZ 6 0)]) rfl ?_
          have hPc := hP.sub (ws' := (List.flatten [(wState (sZ 6) k (vz42 6) (nz43 6) (az44 6))])) [69, 70, 71, 72, 73, 74, 75, 76, 77, 78, 79] rfl
          refine vp_callSi (va_Run.run (va_runV (As := []) (rest := []) ⟨hx, hb, hml, hown, hts⟩ (c_X7_together l dC dI k (sZ 6) (vz42 6) (nz43 6) (az44 6) (hnz43 6)) (cwV 0 hts (gk_V (wl_mem 17 rfl) (wl_mem 18 rfl) (wl_mem 19 rfl) (wl_mem 20 rfl) (fun w h => List.mem_cons_of_mem _ (List.mem_append_right _ (List.mem_append_right _ (List.mem_append_right _ (List.mem_append_right _ (List.mem_append_right _ (List.mem_append_right _ (List.mem_append_right _ (List.mem_append_left _ h))))))))) wkg_c_X7_together) rfl rfl rfl (by decide +kernel) ⟨Nat.le_of_ble_eq_true rfl, Nat.le_of_ble_eq_true rfl⟩) ⟨fun a U g mk q => by obtain ⟨q0, qP, qK⟩ := q; exact ⟨q0, qP, va_K.moved (u := U) (U := U.calling g mk a) (Vm.Alike.refl U.vm) qK⟩, va_recv hK hPc (ci := 7) (q0 := 0) rfl rfl, fun U hU hW => ⟨rfl, by rw [hU]; exact hPc, va_K.moved hW.alike hK⟩⟩ rfl rfl hl.1 rfl (lv_room (Nat.le_of_ble_eq_true rfl)) dX11_sagOfSet_62 ⟨Nat.le_of_ble_eq_true rfl, Nat.le_of_ble_eq_true rfl⟩)) (fun rz60 gz59 => ?_)
          clear hPc
          rw [hQ]
          exact W.iret (v := rz60) hx hb hr (fun t ht hW => ⟨⟨rz60, (), rfl, trivial, vz3, az32, ez5, vz42, nz43, az44, hez5, hnz43, by rw [ht]; exact hP⟩, hS.F ht⟩) hS.2.2 dX11_sagOfSet_65
        · skip
          refine W.eq (g2 := F0 m 62 ls [.ref (sZ 7 0)]) rfl ?_
          have hPc := hP.sub (ws' := (List.flatten [(wState (sZ 7) k (vz42 7) (nz43 7) (az44 7))])) [80, 81, 82, 83, 84, 85, 86, 87, 88, 89, 90] rfl
          refine vp_callSi (va_Run.run (va_runV (As := []) (rest := []) ⟨hx, hb, hml, hown, hts⟩ (c_X7_together l dC dI k (sZ 7) (vz42 7) (nz43 7) (az44 7) (hnz43 7)) (cwV 0 hts (gk_V (wl_mem 17 rfl) (wl_mem 18 rfl) (wl_mem 19 rfl) (wl_mem 20 rfl) (fun w h => List.mem_cons_of_mem _ (List.mem_append_right _ (List.mem_append_right _ (List.mem_append_right _ (List.mem_append_right _ (List.mem_append_right _ (List.mem_append_right _ (List.mem_append_right _ (List.mem_append_left _ h))))))))) wkg_c_X7_together) rfl rfl rfl (by decide +kernel) ⟨Nat.le_of_ble_eq_true rfl, Nat.le_of_ble_eq_true rfl⟩) ⟨fun a U g mk q => by obtain ⟨q0, qP, qK⟩ := q; exact ⟨q0, qP, va_K.moved (u := U) (U := U.calling g mk a) (Vm.Alike.refl U.vm) qK⟩, va_recv hK hPc (ci := 7) (q0 := 0) rfl rfl, fun U hU hW => ⟨rfl, by rw [hU]; exact hPc, va_K.moved hW.alike hK⟩⟩ rfl rfl hl.1 rfl (lv_room (Nat.le_of_ble_eq_true rfl)) dX11_sagOfSet_62 ⟨Nat.le_of_ble_eq_true rfl, Nat.le_of_ble_eq_true rfl⟩)) (fun rz62 gz61 => ?_)
          clear hPc
          rw [hQ]
          exact W.iret (v := rz62) hx hb hr (fun t ht hW => ⟨⟨rz62, (), rfl, trivial, vz3, az32, ez5, vz42, nz43, az44, hez5, hnz43, by rw [ht]; exact hP⟩, hS.F ht⟩) hS.2.2 dX11_sagOfSet_65
      · skip
        have bz63 := fb_rng xz33
        have zz64 : ¬ (cV 0).toInt ≤ xz33.toInt := fun h9 => cz37 (zi_le.mpr h9)
        refine lv_iload_n hx hb dX11_sagOfSet_24 rfl (lv_at hl 1 rfl) ?_
        refine lv_iload_n hx hb dX11_sagOfSet_25 rfl (lv_at hl 2 rfl) ?_
        refine lv_ishr hx hb dX11_sagOfSet_26 ?_
        refine lv_topi (fun xz65 exz65 => ?_)
        refine lv_iconst (v := 1) hx hb dX11_sagOfSet_27 (by decide) ?_
        refine lv_iand hx hb dX11_sagOfSet_28 ?_
        refine lv_topi (fun xz66 exz66 => ?_)
        have bxz66 : 0 ≤ xz66.toInt ∧ xz66.toInt ≤ 1 := by rw [exz66]; exact zand _ 1 2 (by decide) (by decide) (by decide)
        have ct42_kz72 : ∀ (H : Heap) (locs : List Loc) (ls : Array Slot) (az71 : Nat → Nat → Int32), va_P (dC, dI) vwCl (List.flatten [(wPlan qP k vz3 az71 ez5), (wState (sZ 0) k (vZ 0) (nZ 0) (aZ 0)), (wState (sZ 1) k (vZ 1) (nZ 1) (aZ 1)), (wState (sZ 2) k (vZ 2) (nZ 2) (aZ 2)), (wState (sZ 3) k (vZ 3) (nZ 3) (aZ 3)), (wState (sZ 4) k (vZ 4) (nZ 4) (aZ 4)), (wState (sZ 5) k (vZ 5) (nZ 5) (aZ 5)), (wState (sZ 6) k (vZ 6) (nZ 6) (aZ 6)), (wState (sZ 7) k (vZ 7) (nZ 7) (aZ 7))] ++ List.flatten [(wSag qX k tapeX (qV 0) actsX (qN 0) (qP 0) storyX (qZ 0) orderSearchX routeSearchX setSearchX probeX slot0X slot1X slot2X slot3X image0X image1X image2X aX), (wValley qV k vV bV cV wV aV eV), (wPlan qN k vN aN eN), (wStoO qZ k (qV 0) (qP 0) (sZ 0 0) (sZ 1 0) (sZ 2 0) (sZ 3 0) (sZ 4 0) (sZ 5 0) (sZ 6 0) (sZ 7 0))]) H → va_D A (List.flatten [(wPlan qP k vz3 az71 ez5), (wState (sZ 0) k (vZ 0) (nZ 0) (aZ 0)), (wState (sZ 1) k (vZ 1) (nZ 1) (aZ 1)), (wState (sZ 2) k (vZ 2) (nZ 2) (aZ 2)), (wState (sZ 3) k (vZ 3) (nZ 3) (aZ 3)), (wState (sZ 4) k (vZ 4) (nZ 4) (aZ 4)), (wState (sZ 5) k (vZ 5) (nZ 5) (aZ 5)), (wState (sZ 6) k (vZ 6) (nZ 6) (aZ 6)), (wState (sZ 7) k (vZ 7) (nZ 7) (aZ 7))] ++ List.flatten [(wSag qX k tapeX (qV 0) actsX (qN 0) (qP 0) storyX (qZ 0) orderSearchX routeSearchX setSearchX probeX slot0X slot1X slot2X slot3X image0X image1X image2X aX), (wValley qV k vV bV cV wV aV eV), (wPlan qN k vN aN eN), (wStoO qZ k (qV 0) (qP 0) (sZ 0 0) (sZ 1 0) (sZ 2 0) (sZ 3 0) (sZ 4 0) (sZ 5 0) (sZ 6 0) (sZ 7 0))]) → va_S A s.heap H locs → lv_has ls 3 [(0, .ref (qX 0)), (1, .int p1), (2, .int xz33)] → W p l e (headSpec wk_c_X11_sagOfSet ({ frames := 4, cells := 0, slots := 0, locals := 152 })).room s m ([.ref (qX 0), .int p1] : List Value).toArray below meth c H locs 0 0 Q (F0 m 42 ls []) := by
          intro H locs ls az71  hP hD hS hl
          obtain ⟨xz73, exz73⟩ : ∃ y : Int32, y = xz33 + Int32.ofInt (1) := ⟨_, rfl⟩
          have fxz73 : xz73.toInt = xz33.toInt + (1) := by rw [exz73]; exact fb_addI (y := Int32.ofInt (1)) (by show -2147483648 ≤ xz33.toInt + (1); omega) (by show xz33.toInt + (1) < 2147483648; omega)
          refine lv_iinc (v := xz73) (lv' := [(2, .int xz73), (0, .ref (qX 0)), (1, .int p1)]) hx hb dX11_sagOfSet_42 hl (k := 2) rfl exz73.symm (by decide) rfl (fun ls hl => ?_)
          refine lv_goto (tgt := 13) hx hb dX11_sagOfSet_45 (by decide) ?_
          exact ih13 H locs ls az71 xz73 (by show (2147483647 - xz73.toInt).toNat < n9_13; omega) (by show 0 ≤ xz73.toInt; omega) hP hD hS (lv_sub hl [1, 2, 0] rfl)
        refine lv_if_ne (tgt := 42) hx hb dX11_sagOfSet_29 (by decide) (fun cz74 => ?_) (fun cz74 => ?_)
        · skip
          have zz75 : ¬ xz66.toInt = (0 : Int) := fun h9 => cz74 (zi_eq.mpr h9)
          exact ct42_kz72 H locs ls az32   hP hD hS (lv_sub hl [0, 1, 2] rfl)
        · skip
          have zz76 : xz66.toInt = (0 : Int) := zi_eq.mp cz74
          refine lv_aload_n hx hb dX11_sagOfSet_32 rfl (lv_at hl 0 rfl) ?_
          refine va_get (D := (dC, dI)) (ci := 11) (v := .ref (qP 0)) (C := RX11) (T := TX11) (N := 15) hx hb hts (fun w h => List.mem_cons_of_mem _ (List.mem_append_right _ (List.mem_append_left _ h))) hown hK hP 91 rfl rfl 4 (by decide) (hts (.fieldLink RX11 37 "SagMemory" "trial" "LSagMemory$Plan;") (wl_mem 0 rfl)) (fun _ h9 => h9) rfl dX11_sagOfSet_33 ?_
          refine va_get (D := (dC, dI)) (ci := 3) (v := .ref (qP 2)) (C := RX3) (T := TX3) (N := 4) hx hb hts (fun w h => List.mem_cons_of_mem _ (List.mem_append_right _ (List.mem_append_right _ (List.mem_append_right _ (List.mem_append_right _ (List.mem_append_left _ h)))))) hown hK hP 0 rfl rfl 1 (by decide) (hts (.fieldLink RX11 345 "SagMemory$Plan" "ways" "[I") (wl_mem 8 rfl)) (fun _ h9 => h9) rfl dX11_sagOfSet_36 ?_
          refine lv_iload_n hx hb dX11_sagOfSet_39 rfl (lv_at hl 2 rfl) ?_
          refine lv_iconst (v := (-1)) hx hb dX11_sagOfSet_40 (by decide) ?_
          refine va_iast hx hb hK hP hD hS 2 0 rfl rfl (vp_in_iff.mpr ⟨by omega, by omega⟩) dX11_sagOfSet_41 (fun H locs hP hD hS => ?_)
          obtain ⟨fz77, efz77, hP, hD⟩ : ∃ fz77 : Nat → Int32, fz77 = upd (az32 0) xz33.toNatClampNeg (-1 : Int32) ∧ va_P (dC, dI) vwCl (List.flatten [(wPlan qP k vz3 (va_up az32 0 fz77) ez5), (wState (sZ 0) k (vZ 0) (nZ 0) (aZ 0)), (wState (sZ 1) k (vZ 1) (nZ 1) (aZ 1)), (wState (sZ 2) k (vZ 2) (nZ 2) (aZ 2)), (wState (sZ 3) k (vZ 3) (nZ 3) (aZ 3)), (wState (sZ 4) k (vZ 4) (nZ 4) (aZ 4)), (wState (sZ 5) k (vZ 5) (nZ 5) (aZ 5)), (wState (sZ 6) k (vZ 6) (nZ 6) (aZ 6)), (wState (sZ 7) k (vZ 7) (nZ 7) (aZ 7))] ++ List.flatten [(wSag qX k tapeX (qV 0) actsX (qN 0) (qP 0) storyX (qZ 0) orderSearchX routeSearchX setSearchX probeX slot0X slot1X slot2X slot3X image0X image1X image2X aX), (wValley qV k vV bV cV wV aV eV), (wPlan qN k vN aN eN), (wStoO qZ k (qV 0) (qP 0) (sZ 0 0) (sZ 1 0) (sZ 2 0) (sZ 3 0) (sZ 4 0) (sZ 5 0) (sZ 6 0) (sZ 7 0))]) H ∧ va_D A (List.flatten [(wPlan qP k vz3 (va_up az32 0 fz77) ez5), (wState (sZ 0) k (vZ 0) (nZ 0) (aZ 0)), (wState (sZ 1) k (vZ 1) (nZ 1) (aZ 1)), (wState (sZ 2) k (vZ 2) (nZ 2) (aZ 2)), (wState (sZ 3) k (vZ 3) (nZ 3) (aZ 3)), (wState (sZ 4) k (vZ 4) (nZ 4) (aZ 4)), (wState (sZ 5) k (vZ 5) (nZ 5) (aZ 5)), (wState (sZ 6) k (vZ 6) (nZ 6) (aZ 6)), (wState (sZ 7) k (vZ 7) (nZ 7) (aZ 7))] ++ List.flatten [(wSag qX k tapeX (qV 0) actsX (qN 0) (qP 0) storyX (qZ 0) orderSearchX routeSearchX setSearchX probeX slot0X slot1X slot2X slot3X image0X image1X image2X aX), (wValley qV k vV bV cV wV aV eV), (wPlan qN k vN aN eN), (wStoO qZ k (qV 0) (qP 0) (sZ 0 0) (sZ 1 0) (sZ 2 0) (sZ 3 0) (sZ 4 0) (sZ 5 0) (sZ 6 0) (sZ 7 0))]) := ⟨_, rfl, hP, hD⟩
          have kfz77 : fz77 xz33.toNatClampNeg = (-1 : Int32) := by rw [efz77]; exact pk_us
          exact ct42_kz72 H locs ls (va_up az32 0 fz77)   hP hD hS (lv_sub hl [0, 1, 2] rfl)
  exact lp13_kz34 _ H locs ls az4 (0 : Int32) (Nat.lt_succ_self _) (by show 0 ≤ (0 : Int); omega) hP hD hS (lv_sub hl [1, 2, 0] rfl)
def wk_c_X11_sagWithout : List Cond := .code yX11_sagWithout cX11_sagWithout 2 (some .int) :: ([.fieldLink RX11 19 "SagMemory" "told" "LSagMemory$Valley;", .fieldLink RX11 177 "SagMemory$Valley" "carts" "I", .methodLink RX11 316 yX11_sagOfSet, .instanceMethod yX11_sagOfSet, .selects RX11 yX11_sagOfSet yX11_sagOfSet, .initialized RX11] ++ (wsX110 ++ (wsX100 ++ (wk_c_X11_sagOfSet ++ []))))
theorem wkg_c_X11_sagWithout : wk_c_X11_sagWithout.all goodWord = true := by decide +kernel
set_option maxHeartbeats 4000000 in
set_option maxRecDepth 100000 in
theorem c_X11_sagWithout (l : Launch) (dC : Nat → ClassId) (dI : Nat → Nat → Nat) (k : Nat → ClassId) (sz : Nat) (qX : Nat → Nat) (tapeX : Nat) (actsX : Nat) (storyX : Nat) (orderSearchX : Nat) (routeSearchX : Nat) (setSearchX : Nat) (probeX : Nat) (slot0X : Nat) (slot1X : Nat) (slot2X : Nat) (slot3X : Nat) (image0X : Nat) (image1X : Nat) (image2X : Nat) (aX : Nat → Nat → Int32) (qV : Nat → Nat) (vV : Nat → Int32) (bV : Nat → Int32) (cV : Nat → Int32) (wV : Nat → Int32) (aV : Nat → Nat → Int32) (eV : Nat → Nat → Int32) (qN : Nat → Nat) (vN : Nat → Int32) (aN : Nat → Nat → Int32) (eN : Nat → Nat → Int32) (qP : Nat → Nat) (vP : Nat → Int32) (aP : Nat → Nat → Int32) (eP : Nat → Nat → Int32) (qZ : Nat → Nat) (sZ : Nat → Nat → Nat) (vZ : Nat → Nat → Int32) (nZ : Nat → Nat → Int32) (aZ : Nat → Nat → Nat → Int32) (p1 : Int32) (hbV : Rg 0 3 bV) (hcV : Rg 0 7 cV) (hwV : Rg 0 5 wV) (heV : RgA 0 99 eV) (heN : RgA 0 99 eN) (heP : RgA 0 99 eP) (hnZ : ∀ t9, Rg 0 8 (nZ t9)) : Met l yX11_sagWithout wk_c_X11_sagWithout ({ frames := 5, cells := 0, slots := 0, locals := 174 }) (va_Pc [.ref (qX 0), .int p1] (fun U => U.heap.size = sz ∧ va_P (dC, dI) vwCl (List.flatten [(wPlan qP k vP aP eP), (wState (sZ 0) k (vZ 0) (nZ 0) (aZ 0)), (wState (sZ 1) k (vZ 1) (nZ 1) (aZ 1)), (wState (sZ 2) k (vZ 2) (nZ 2) (aZ 2)), (wState (sZ 3) k (vZ 3) (nZ 3) (aZ 3)), (wState (sZ 4) k (vZ 4) (nZ 4) (aZ 4)), (wState (sZ 5) k (vZ 5) (nZ 5) (aZ 5)), (wState (sZ 6) k (vZ 6) (nZ 6) (aZ 6)), (wState (sZ 7) k (vZ 7) (nZ 7) (aZ 7))] ++ List.flatten [(wSag qX k tapeX (qV 0) actsX (qN 0) (qP 0) storyX (qZ 0) orderSearchX routeSearchX setSearchX probeX slot0X slot1X slot2X slot3X image0X image1X image2X aX), (wValley qV k vV bV cV wV aV eV), (wPlan qN k vN aN eN), (wStoO qZ k (qV 0) (qP 0) (sZ 0 0) (sZ 1 0) (sZ 2 0) (sZ 3 0) (sZ 4 0) (sZ 5 0) (sZ 6 0) (sZ 7 0))]) U.heap ∧ va_K (dC, dI) vwCl (tK k) U ∧ va_D (fun _ => True) (List.flatten [(wPlan qP k vP aP eP), (wState (sZ 0) k (vZ 0) (nZ 0) (aZ 0)), (wState (sZ 1) k (vZ 1) (nZ 1) (aZ 1)), (wState (sZ 2) k (vZ 2) (nZ 2) (aZ 2)), (wState (sZ 3) k (vZ 3) (nZ 3) (aZ 3)), (wState (sZ 4) k (vZ 4) (nZ 4) (aZ 4)), (wState (sZ 5) k (vZ 5) (nZ 5) (aZ 5)), (wState (sZ 6) k (vZ 6) (nZ 6) (aZ 6)), (wState (sZ 7) k (vZ 7) (nZ 7) (aZ 7))] ++ List.flatten [(wSag qX k tapeX (qV 0) actsX (qN 0) (qP 0) storyX (qZ 0) orderSearchX routeSearchX setSearchX probeX slot0X slot1X slot2X slot3X image0X image1X image2X aX), (wValley qV k vV bV cV wV aV eV), (wPlan qN k vN aN eN), (wStoO qZ k (qV 0) (qP 0) (sZ 0 0) (sZ 1 0) (sZ 2 0) (sZ 3 0) (sZ 4 0) (sZ 5 0) (sZ 6 0) (sZ 7 0))]))) (va_Qi (fun (r : Int32) (_ : Unit) => True) (fun (_ : Unit) (t : State) => ∃ (vP' : Nat → Int32) (aP' : Nat → Nat → Int32) (eP' : Nat → Nat → Int32) (vZ' : Nat → Nat → Int32) (nZ' : Nat → Nat → Int32) (aZ' : Nat → Nat → Nat → Int32), RgA 0 99 eP' ∧ (∀ t9, Rg 0 8 (nZ' t9)) ∧ va_P (dC, dI) vwCl (List.flatten [(wPlan qP k vP' aP' eP'), (wState (sZ 0) k (vZ' 0) (nZ' 0) (aZ' 0)), (wState (sZ 1) k (vZ' 1) (nZ' 1) (aZ' 1)), (wState (sZ 2) k (vZ' 2) (nZ' 2) (aZ' 2)), (wState (sZ 3) k (vZ' 3) (nZ' 3) (aZ' 3)), (wState (sZ 4) k (vZ' 4) (nZ' 4) (aZ' 4)), (wState (sZ 5) k (vZ' 5) (nZ' 5) (aZ' 5)), (wState (sZ 6) k (vZ' 6) (nZ' 6) (aZ' 6)), (wState (sZ 7) k (vZ' 7) (nZ' 7) (aZ' 7))] ++ List.flatten [(wSag qX k tapeX (qV 0) actsX (qN 0) (qP 0) storyX (qZ 0) orderSearchX routeSearchX setSearchX probeX slot0X slot1X slot2X slot3X image0X image1X image2X aX), (wValley qV k vV bV cV wV aV eV), (wPlan qN k vN aN eN), (wStoO qZ k (qV 0) (qP 0) (sZ 0 0) (sZ 1 0) (sZ 2 0) (sZ 3 0) (sZ 4 0) (sZ 5 0) (sZ 6 0) (sZ 7 0))]) t.heap) (va_A (List.flatten [(wPlan qP k vP aP eP), (wState (sZ 0) k (vZ 0) (nZ 0) (aZ 0)), (wState (sZ 1) k (vZ 1) (nZ 1) (aZ 1)), (wState (sZ 2) k (vZ 2) (nZ 2) (aZ 2)), (wState (sZ 3) k (vZ 3) (nZ 3) (aZ 3)), (wState (sZ 4) k (vZ 4) (nZ 4) (aZ 4)), (wState (sZ 5) k (vZ 5) (nZ 5) (aZ 5)), (wState (sZ 6) k (vZ 6) (nZ 6) (aZ 6)), (wState (sZ 7) k (vZ 7) (nZ 7) (aZ 7))] ++ List.flatten [(wSag qX k tapeX (qV 0) actsX (qN 0) (qP 0) storyX (qZ 0) orderSearchX routeSearchX setSearchX probeX slot0X slot1X slot2X slot3X image0X image1X image2X aX), (wValley qV k vV bV cV wV aV eV), (wPlan qN k vN aN eN), (wStoO qZ k (qV 0) (qP 0) (sZ 0 0) (sZ 1 0) (sZ 2 0) (sZ 3 0) (sZ 4 0) (sZ 5 0) (sZ 6 0) (sZ 7 0))]) sz)) 0 0 (va_A (List.flatten [(wPlan qP k vP aP eP), (wState (sZ 0) k (vZ 0) (nZ 0) (aZ 0)), (wState (sZ 1) k (vZ 1) (nZ 1) (aZ 1)), (wState (sZ 2) k (vZ 2) (nZ 2) (aZ 2)), (wState (sZ 3) k (vZ 3) (nZ 3) (aZ 3)), (wState (sZ 4) k (vZ 4) (nZ 4) (aZ 4)), (wState (sZ 5) k (vZ 5) (nZ 5) (aZ 5)), (wState (sZ 6) k (vZ 6) (nZ 6) (aZ 6)), (wState (sZ 7) k (vZ 7) (nZ 7) (aZ 7))] ++ List.flatten [(wSag qX k tapeX (qV 0) actsX (qN 0) (qP 0) storyX (qZ 0) orderSearchX routeSearchX setSearchX probeX slot0X slot1X slot2X slot3X image0X image1X image2X aX), (wValley qV k vV bV cV wV aV eV), (wPlan qN k vN aN eN), (wStoO qZ k (qV 0) (qP 0) (sZ 0 0) (sZ 1 0) (sZ 2 0) (sZ 3 0) (sZ 4 0) (sZ 5 0) (sZ 6 0) (sZ 7 0))]) sz) := by
  refine Met.ofW (cc := cX11_sagWithout) (maxL := 2) (ret := (some .int)) (by decide) rfl ?_
  intro p e s m args below meth c s₁ B hml hv
  obtain ⟨rfl, hsz, hP, hK, hD0⟩ := hv
  have hx := B.exec
  have hb := B.bytes
  have hr := B.returns
  have hts := atoms_spec (ws := wk_c_X11_sagWithout) B.pre
  have hown : s.vm.findClass RX11 = some m.cls := findClass_of_methodNamed B.named
  have hlocks := B.notSynchronized
  subst hsz
  have hD := hD0.self (sz := s.heap.size)
  generalize hAe : va_A (List.flatten [(wPlan qP k vP aP eP), (wState (sZ 0) k (vZ 0) (nZ 0) (aZ 0)), (wState (sZ 1) k (vZ 1) (nZ 1) (aZ 1)), (wState (sZ 2) k (vZ 2) (nZ 2) (aZ 2)), (wState (sZ 3) k (vZ 3) (nZ 3) (aZ 3)), (wState (sZ 4) k (vZ 4) (nZ 4) (aZ 4)), (wState (sZ 5) k (vZ 5) (nZ 5) (aZ 5)), (wState (sZ 6) k (vZ 6) (nZ 6) (aZ 6)), (wState (sZ 7) k (vZ 7) (nZ 7) (aZ 7))] ++ List.flatten [(wSag qX k tapeX (qV 0) actsX (qN 0) (qP 0) storyX (qZ 0) orderSearchX routeSearchX setSearchX probeX slot0X slot1X slot2X slot3X image0X image1X image2X aX), (wValley qV k vV bV cV wV aV eV), (wPlan qN k vN aN eN), (wStoO qZ k (qV 0) (qP 0) (sZ 0 0) (sZ 1 0) (sZ 2 0) (sZ 3 0) (sZ 4 0) (sZ 5 0) (sZ 6 0) (sZ 7 0))]) s.heap.size = A at hD ⊢
  have hA : ∀ q : Nat, s.heap.size ≤ q → A q := fun q h => by rw [← hAe]; exact Or.inr h
  have hS : va_S A s.heap s.heap [] := va_S.rf
  have hP : va_P (dC, dI) vwCl (List.flatten [(wPlan qP k vP aP eP), (wState (sZ 0) k (vZ 0) (nZ 0) (aZ 0)), (wState (sZ 1) k (vZ 1) (nZ 1) (aZ 1)), (wState (sZ 2) k (vZ 2) (nZ 2) (aZ 2)), (wState (sZ 3) k (vZ 3) (nZ 3) (aZ 3)), (wState (sZ 4) k (vZ 4) (nZ 4) (aZ 4)), (wState (sZ 5) k (vZ 5) (nZ 5) (aZ 5)), (wState (sZ 6) k (vZ 6) (nZ 6) (aZ 6)), (wState (sZ 7) k (vZ 7) (nZ 7) (aZ 7))] ++ List.flatten [(wSag qX k tapeX (qV 0) actsX (qN 0) (qP 0) storyX (qZ 0) orderSearchX routeSearchX setSearchX probeX slot0X slot1X slot2X slot3X image0X image1X image2X aX), (wValley qV k vV bV cV wV aV eV), (wPlan qN k vN aN eN), (wStoO qZ k (qV 0) (qP 0) (sZ 0 0) (sZ 1 0) (sZ 2 0) (sZ 3 0) (sZ 4 0) (sZ 5 0) (sZ 6 0) (sZ 7 0))]) s.heap := hP
  have hl := lv_entry ([.ref (qX 0), .int p1]) (n := 2) (Nat.le_of_ble_eq_true rfl)
  rw [lg_entry_eq]
  generalize (lg_sl ([.ref (qX 0), .int p1]) ++ List.replicate (2 - (lg_sl ([.ref (qX 0), .int p1])).length) Slot.unset).toArray = ls at hl ⊢
  have hl : lv_has ls 2 [(0, .ref (qX 0)), (1, .int p1)] := hl
  refine w_gen (fun Q hQ => ?_)
  refine lv_aload_n hx hb dX11_sagWithout_0 rfl (lv_at hl 0 rfl) ?_
  refine lv_iconst (v := 1) hx hb dX11_sagWithout_1 (by decide) ?_
  refine lv_aload_n hx hb dX11_sagWithout_2 rfl (lv_at hl 0 rfl) ?_
  refine va_get (D := (dC, dI)) (ci := 11) (v := .ref (qV 0)) (C := RX11) (T := TX11) (N := 15) hx hb hts (fun w h => List.mem_cons_of_mem _ (List.mem_append_right _ (List.mem_append_left _ h))) hown hK hP 91 rfl rfl 1 (by decide) (hts (.fieldLink RX11 19 "SagMemory" "told" "LSagMemory$Valley;") (wl_mem 0 rfl)) (fun _ h9 => h9) rfl dX11_sagWithout_3 ?_
  refine va_get (D := (dC, dI)) (ci := 10) (v := .int (cV 0)) (C := RX10) (T := TX10) (N := 16) hx hb hts (fun w h => List.mem_cons_of_mem _ (List.mem_append_right _ (List.mem_append_right _ (List.mem_append_left _ h)))) hown hK hP 96 rfl rfl 12 (by decide) (hts (.fieldLink RX11 177 "SagMemory$Valley" "carts" "I") (wl_mem 1 rfl)) (fun _ h9 => h9) rfl dX11_sagWithout_6 ?_
  have bz1 := hcV 0
  refine lv_ishl hx hb dX11_sagWithout_9 ?_
  refine lv_topi (fun xz2 exz2 => ?_)
  refine lv_iconst (v := 1) hx hb dX11_sagWithout_10 (by decide) ?_
  refine lv_isub hx hb dX11_sagWithout_11 ?_
  refine lv_topi (fun xz3 exz3 => ?_)
  refine lv_iconst (v := 1) hx hb dX11_sagWithout_12 (by decide) ?_
  refine lv_iload_n hx hb dX11_sagWithout_13 rfl (lv_at hl 1 rfl) ?_
  refine lv_ishl hx hb dX11_sagWithout_14 ?_
  refine lv_topi (fun xz4 exz4 => ?_)
  refine lv_iconst (v := (-1)) hx hb dX11_sagWithout_15 (by decide) ?_
  refine lv_ixor hx hb dX11_sagWithout_16 ?_
  refine lv_topi (fun xz5 exz5 => ?_)
  refine lv_iand hx hb dX11_sagWithout_17 ?_
  refine lv_topi (fun xz6 exz6 => ?_)
  have hPc := hP
  have hDc : va_D A (List.flatten [(wPlan qP k vP aP eP), (wState (sZ 0) k (vZ 0) (nZ 0) (aZ 0)), (wState (sZ 1) k (vZ 1) (nZ 1) (aZ 1)), (wState (sZ 2) k (vZ 2) (nZ 2) (aZ 2)), (wState (sZ 3) k (vZ 3) (nZ 3) (aZ 3)), (wState (sZ 4) k (vZ 4) (nZ 4) (aZ 4)), (wState (sZ 5) k (vZ 5) (nZ 5) (aZ 5)), (wState (sZ 6) k (vZ 6) (nZ 6) (aZ 6)), (wState (sZ 7) k (vZ 7) (nZ 7) (aZ 7))] ++ List.flatten [(wSag qX k tapeX (qV 0) actsX (qN 0) (qP 0) storyX (qZ 0) orderSearchX routeSearchX setSearchX probeX slot0X slot1X slot2X slot3X image0X image1X image2X aX), (wValley qV k vV bV cV wV aV eV), (wPlan qN k vN aN eN), (wStoO qZ k (qV 0) (qP 0) (sZ 0 0) (sZ 1 0) (sZ 2 0) (sZ 3 0) (sZ 4 0) (sZ 5 0) (sZ 6 0) (sZ 7 0))]) := wc_subD hD [0, 1, 2, 3, 4, 5, 6, 7, 8, 9, 10, 11, 12] rfl rfl
  have hFc := wc_free hDc hS hA
  refine va_calli (va_runV (As := [.int xz6]) (rest := []) ⟨hx, hb, hml, hown, hts⟩ (c_X11_sagOfSet l dC dI k s.heap.size qX tapeX actsX storyX orderSearchX routeSearchX setSearchX probeX slot0X slot1X slot2X slot3X image0X image1X image2X aX qV vV bV cV wV aV eV qN vN aN eN qP vP aP eP qZ sZ vZ nZ aZ xz6 hbV hcV hwV heV heN heP hnZ) (cwV 1 hts (gk_V (wl_mem 2 rfl) (wl_mem 3 rfl) (wl_mem 4 rfl) (wl_mem 5 rfl) (fun w h => List.mem_cons_of_mem _ (List.mem_append_right _ (List.mem_append_right _ (List.mem_append_right _ (List.mem_append_left _ h))))) wkg_c_X11_sagOfSet) rfl rfl rfl (by decide +kernel) ⟨Nat.le_of_ble_eq_true rfl, Nat.le_of_ble_eq_true rfl⟩) ⟨fun a U g mk q => by obtain ⟨q0, q1, qP, qK, qD⟩ := q; exact ⟨q0, q1, qP, va_K.moved (u := U) (U := U.calling g mk a) (Vm.Alike.refl U.vm) qK, qD⟩, va_recv hK hPc (ci := 11) (q0 := 91) rfl rfl, fun U hU hW => ⟨rfl, by rw [hU], by rw [hU]; exact hPc, va_K.moved hW.alike hK, hDc.weaken (fun _ _ _ _ => trivial)⟩⟩ rfl rfl hl.1 rfl (lv_room (Nat.le_of_ble_eq_true rfl)) dX11_sagWithout_18 ⟨Nat.le_of_ble_eq_true rfl, Nat.le_of_ble_eq_true rfl⟩) hS (fun q _ h => hFc q h) hFc (fun rz8 u t H1 locs ht hvm gz7 hB hz1 hk1 hS => ?_)
  obtain ⟨vz9, az10, ez11, vz12, nz13, az14, hez11, hnz13, hP1⟩ := hB
  rw [ht] at hP1
  obtain ⟨hP, hD⟩ := w_callR hP hD hk1 hP1 [0, 1, 2, 3, 4, 5, 6, 7, 8] rfl rfl (wk_memC [9, 10, 11, 12] rfl) rfl [some 0, some 1, some 2, some 3, some 4, some 5, some 6, some 7, some 8] rfl rfl
  clear hPc hDc hFc hk1 hP1
  generalize H1 = H at hP hS ⊢
  have hP : va_P (dC, dI) vwCl (List.flatten [(wPlan qP k vz9 az10 ez11), (wState (sZ 0) k (vz12 0) (nz13 0) (az14 0)), (wState (sZ 1) k (vz12 1) (nz13 1) (az14 1)), (wState (sZ 2) k (vz12 2) (nz13 2) (az14 2)), (wState (sZ 3) k (vz12 3) (nz13 3) (az14 3)), (wState (sZ 4) k (vz12 4) (nz13 4) (az14 4)), (wState (sZ 5) k (vz12 5) (nz13 5) (az14 5)), (wState (sZ 6) k (vz12 6) (nz13 6) (az14 6)), (wState (sZ 7) k (vz12 7) (nz13 7) (az14 7))] ++ List.flatten [(wSag qX k tapeX (qV 0) actsX (qN 0) (qP 0) storyX (qZ 0) orderSearchX routeSearchX setSearchX probeX slot0X slot1X slot2X slot3X image0X image1X image2X aX), (wValley qV k vV bV cV wV aV eV), (wPlan qN k vN aN eN), (wStoO qZ k (qV 0) (qP 0) (sZ 0 0) (sZ 1 0) (sZ 2 0) (sZ 3 0) (sZ 4 0) (sZ 5 0) (sZ 6 0) (sZ 7 0))]) H := hP
  have hD : va_D A (List.flatten [(wPlan qP k vz9 az10 ez11), (wState (sZ 0) k (vz12 0) (nz13 0) (az14 0)), (wState (sZ 1) k (vz12 1) (nz13 1) (az14 1)), (wState (sZ 2) k (vz12 2) (nz13 2) (az14 2)), (wState (sZ 3) k (vz12 3) (nz13 3) (az14 3)), (wState (sZ 4) k (vz12 4) (nz13 4) (az14 4)), (wState (sZ 5) k (vz12 5) (nz13 5) (az14 5)), (wState (sZ 6) k (vz12 6) (nz13 6) (az14 6)), (wState (sZ 7) k (vz12 7) (nz13 7) (az14 7))] ++ List.flatten [(wSag qX k tapeX (qV 0) actsX (qN 0) (qP 0) storyX (qZ 0) orderSearchX routeSearchX setSearchX probeX slot0X slot1X slot2X slot3X image0X image1X image2X aX), (wValley qV k vV bV cV wV aV eV), (wPlan qN k vN aN eN), (wStoO qZ k (qV 0) (qP 0) (sZ 0 0) (sZ 1 0) (sZ 2 0) (sZ 3 0) (sZ 4 0) (sZ 5 0) (sZ 6 0) (sZ 7 0))]) := hD
  refine W.widen (k := 0) (n := 0) (Nat.le_refl 0) (Nat.le_refl 0) ?_
  rw [hQ]
  exact W.iret (v := rz8) hx hb hr (fun t ht hW => ⟨⟨rz8, (), rfl, trivial, vz9, az10, ez11, vz12, nz13, az14, hez11, hnz13, by rw [ht]; exact hP⟩, hS.F ht⟩) hS.2.2 dX11_sagWithout_21
