def wk_c_X2_heaviest : List Cond := .code yX2_heaviest cX2_heaviest 2 (some .int) :: ([.fieldLink RX2 18 "SagMemory$Memory" "size" "I", .fieldLink RX2 9 "SagMemory$Memory" "loads" "[I"] ++ (wsX20 ++ []))
theorem wkg_c_X2_heaviest : wk_c_X2_heaviest.all goodWord = true := by decide +kernel
set_option maxHeartbeats 4000000 in
set_option maxRecDepth 100000 in
theorem c_X2_heaviest (l : Launch) (dC : Nat → ClassId) (dI : Nat → Nat → Nat) (k : Nat → ClassId) (qM : Nat → Nat) (nM : Nat → Int32) (aM : Nat → Nat → Int32) (p1 : Int32) (hnM : Rg 0 8 nM) : Met l yX2_heaviest wk_c_X2_heaviest ({ frames := 0, cells := 0, slots := 0, locals := 0 }) (va_Pc [.ref (qM 0), .int p1] (fun U => va_P (dC, dI) vwCl (List.flatten [(wMem qM k nM aM)]) U.heap ∧ va_K (dC, dI) vwCl (tK k) U)) (vp_Si (fun r : Int32 => True)) 0 0 (fun _ => False) := by
  refine Met.ofW (cc := cX2_heaviest) (maxL := 2) (ret := (some .int)) (by decide) rfl ?_
  intro p e s m args below meth c s₁ B hml hv
  obtain ⟨rfl, hP, hK⟩ := hv
  have hx := B.exec
  have hb := B.bytes
  have hr := B.returns
  have hts := atoms_spec (ws := wk_c_X2_heaviest) B.pre
  have hown : s.vm.findClass RX2 = some m.cls := findClass_of_methodNamed B.named
  have hlocks := B.notSynchronized
  have hP : va_P (dC, dI) vwCl (List.flatten [(wMem qM k nM aM)]) s.heap := hP
  have hl := lv_entry ([.ref (qM 0), .int p1]) (n := 2) (Nat.le_of_ble_eq_true rfl)
  rw [lg_entry_eq]
  generalize (lg_sl ([.ref (qM 0), .int p1]) ++ List.replicate (2 - (lg_sl ([.ref (qM 0), .int p1])).length) Slot.unset).toArray = ls at hl ⊢
  have hl : lv_has ls 2 [(0, .ref (qM 0)), (1, .int p1)] := hl
  refine w_gen (fun Q hQ => ?_)
  refine lv_iload_n hx hb dX2_heaviest_0 rfl (lv_at hl 1 rfl) ?_
  refine lv_if_lt (tgt := 21) hx hb dX2_heaviest_1 (by decide) (fun cz1 => ?_) (fun cz1 => ?_)
  · skip
    have bz2 := fb_rng p1
    have zz3 : p1.toInt < (0 : Int) := zi_lt.mp cz1
    refine lv_iconst (v := (-1)) hx hb dX2_heaviest_21 (by decide) ?_
    rw [hQ]
    exact W.iret (v := (-1 : Int32)) hx hb hr (fun t ht hW => ⟨(-1 : Int32), rfl, trivial, ht⟩) (fun _ h => absurd h List.not_mem_nil) dX2_heaviest_22
  · skip
    have bz4 := fb_rng p1
    have zz5 : ¬ p1.toInt < (0 : Int) := fun h9 => cz1 (zi_lt.mpr h9)
    refine lv_iload_n hx hb dX2_heaviest_4 rfl (lv_at hl 1 rfl) ?_
    refine lv_aload_n hx hb dX2_heaviest_5 rfl (lv_at hl 0 rfl) ?_
    refine va_get (D := (dC, dI)) (ci := 2) (v := .int (nM 0)) (C := RX2) (T := TX2) (N := 3) hx hb hts (fun w h => List.mem_cons_of_mem _ (List.mem_append_right _ (List.mem_append_left _ h))) hown hK hP 0 rfl rfl 2 (by decide) (hts (.fieldLink RX2 18 "SagMemory$Memory" "size" "I") (wl_mem 0 rfl)) (fun _ h9 => h9) rfl dX2_heaviest_6 ?_
    have bz6 := hnM 0
    refine lv_icmp_ge (tgt := 21) hx hb dX2_heaviest_9 (by decide) (fun cz7 => ?_) (fun cz7 => ?_)
    · skip
      have zz8 : (nM 0).toInt ≤ p1.toInt := zi_le.mp cz7
      refine lv_iconst (v := (-1)) hx hb dX2_heaviest_21 (by decide) ?_
      rw [hQ]
      exact W.iret (v := (-1 : Int32)) hx hb hr (fun t ht hW => ⟨(-1 : Int32), rfl, trivial, ht⟩) (fun _ h => absurd h List.not_mem_nil) dX2_heaviest_22
    · skip
      have zz9 : ¬ (nM 0).toInt ≤ p1.toInt := fun h9 => cz7 (zi_le.mpr h9)
      refine lv_aload_n hx hb dX2_heaviest_12 rfl (lv_at hl 0 rfl) ?_
      refine va_get (D := (dC, dI)) (ci := 2) (v := .ref (qM 1)) (C := RX2) (T := TX2) (N := 3) hx hb hts (fun w h => List.mem_cons_of_mem _ (List.mem_append_right _ (List.mem_append_left _ h))) hown hK hP 0 rfl rfl 0 (by decide) (hts (.fieldLink RX2 9 "SagMemory$Memory" "loads" "[I") (wl_mem 1 rfl)) (fun _ h9 => h9) rfl dX2_heaviest_13 ?_
      refine lv_iload_n hx hb dX2_heaviest_16 rfl (lv_at hl 1 rfl) ?_
      refine va_iald hx hb hK hP 1 0 rfl rfl (vp_in_iff.mpr ⟨by omega, by omega⟩) dX2_heaviest_17 ?_
      refine lv_topi (fun xz10 exz10 => ?_)
      refine lv_goto (tgt := 22) hx hb dX2_heaviest_18 (by decide) ?_
      rw [hQ]
      exact W.iret (v := xz10) hx hb hr (fun t ht hW => ⟨xz10, rfl, trivial, ht⟩) (fun _ h => absurd h List.not_mem_nil) dX2_heaviest_22
def wk_c_X2_depth : List Cond := .code yX2_depth cX2_depth 3 (some .int) :: ([.fieldLink RX2 18 "SagMemory$Memory" "size" "I", .fieldLink RX2 9 "SagMemory$Memory" "loads" "[I"] ++ (wsX20 ++ []))
theorem wkg_c_X2_depth : wk_c_X2_depth.all goodWord = true := by decide +kernel
set_option maxHeartbeats 4000000 in
set_option maxRecDepth 100000 in
theorem c_X2_depth (l : Launch) (dC : Nat → ClassId) (dI : Nat → Nat → Nat) (k : Nat → ClassId) (qM : Nat → Nat) (nM : Nat → Int32) (aM : Nat → Nat → Int32) (hnM : Rg 0 8 nM) : Met l yX2_depth wk_c_X2_depth ({ frames := 0, cells := 0, slots := 0, locals := 0 }) (va_Pc [.ref (qM 0)] (fun U => va_P (dC, dI) vwCl (List.flatten [(wMem qM k nM aM)]) U.heap ∧ va_K (dC, dI) vwCl (tK k) U)) (vp_Si (fun r : Int32 => True)) 0 0 (fun _ => False) := by
  refine Met.ofW (cc := cX2_depth) (maxL := 3) (ret := (some .int)) (by decide) rfl ?_
  intro p e s m args below meth c s₁ B hml hv
  obtain ⟨rfl, hP, hK⟩ := hv
  have hx := B.exec
  have hb := B.bytes
  have hr := B.returns
  have hts := atoms_spec (ws := wk_c_X2_depth) B.pre
  have hown : s.vm.findClass RX2 = some m.cls := findClass_of_methodNamed B.named
  have hlocks := B.notSynchronized
  have hP : va_P (dC, dI) vwCl (List.flatten [(wMem qM k nM aM)]) s.heap := hP
  have hl := lv_entry ([.ref (qM 0)]) (n := 3) (Nat.le_of_ble_eq_true rfl)
  rw [lg_entry_eq]
  generalize (lg_sl ([.ref (qM 0)]) ++ List.replicate (3 - (lg_sl ([.ref (qM 0)])).length) Slot.unset).toArray = ls at hl ⊢
  have hl : lv_has ls 3 [(0, .ref (qM 0))] := hl
  refine w_gen (fun Q hQ => ?_)
  refine lv_iconst (v := 0) hx hb dX2_depth_0 (by decide) ?_
  refine lv_istore_n (lv' := [(1, .int 0), (0, .ref (qM 0))]) hx hb dX2_depth_1 rfl hl (by decide) rfl (fun ls hl => ?_)
  refine lv_iconst (v := 0) hx hb dX2_depth_2 (by decide) ?_
  refine lv_istore_n (lv' := [(2, .int 0), (1, .int 0), (0, .ref (qM 0))]) hx hb dX2_depth_3 rfl hl (by decide) rfl (fun ls hl => ?_)
  have lp4_kz16 : ∀ (n9_4 : Nat) (ls : Array Slot) (xz14 : Int32) (xz15 : Int32), (2147483647 - xz15.toInt).toNat < n9_4 → 0 ≤ xz15.toInt → lv_has ls 3 [(0, .ref (qM 0)), (1, .int xz14), (2, .int xz15)] → W p l e (headSpec wk_c_X2_depth ({ frames := 0, cells := 0, slots := 0, locals := 0 })).room s m ([.ref (qM 0)] : List Value).toArray below meth c s.heap [] 0 0 Q (F0 m 4 ls []) := by
    intro n9_4
    induction n9_4 with
    | zero => intro ls xz14 xz15 hm; exact absurd hm (Nat.not_lt_zero _)
    | succ n9_4 ih4 =>
      intro ls xz14 xz15 hm4 jz17 hl
      refine lv_iload_n hx hb dX2_depth_4 rfl (lv_at hl 2 rfl) ?_
      refine lv_aload_n hx hb dX2_depth_5 rfl (lv_at hl 0 rfl) ?_
      refine va_get (D := (dC, dI)) (ci := 2) (v := .int (nM 0)) (C := RX2) (T := TX2) (N := 3) hx hb hts (fun w h => List.mem_cons_of_mem _ (List.mem_append_right _ (List.mem_append_left _ h))) hown hK hP 0 rfl rfl 2 (by decide) (hts (.fieldLink RX2 18 "SagMemory$Memory" "size" "I") (wl_mem 0 rfl)) (fun _ h9 => h9) rfl dX2_depth_6 ?_
      have bz18 := hnM 0
      refine lv_icmp_ge (tgt := 31) hx hb dX2_depth_9 (by decide) (fun cz19 => ?_) (fun cz19 => ?_)
      · skip
        have bz20 := fb_rng xz15
        have zz21 : (nM 0).toInt ≤ xz15.toInt := zi_le.mp cz19
        refine lv_iload_n hx hb dX2_depth_31 rfl (lv_at hl 1 rfl) ?_
        rw [hQ]
        exact W.iret (v := xz14) hx hb hr (fun t ht hW => ⟨xz14, rfl, trivial, ht⟩) (fun _ h => absurd h List.not_mem_nil) dX2_depth_32
      · skip
        have bz22 := fb_rng xz15
        have zz23 : ¬ (nM 0).toInt ≤ xz15.toInt := fun h9 => cz19 (zi_le.mpr h9)
        refine lv_iload_n hx hb dX2_depth_12 rfl (lv_at hl 1 rfl) ?_
        refine lv_aload_n hx hb dX2_depth_13 rfl (lv_at hl 0 rfl) ?_
        refine va_get (D := (dC, dI)) (ci := 2) (v := .ref (qM 1)) (C := RX2) (T := TX2) (N := 3) hx hb hts (fun w h => List.mem_cons_of_mem _ (List.mem_append_right _ (List.mem_append_left _ h))) hown hK hP 0 rfl rfl 0 (by decide) (hts (.fieldLink RX2 9 "SagMemory$Memory" "loads" "[I") (wl_mem 1 rfl)) (fun _ h9 => h9) rfl dX2_depth_14 ?_
        refine lv_iload_n hx hb dX2_depth_17 rfl (lv_at hl 2 rfl) ?_
        refine va_iald hx hb hK hP 1 0 rfl rfl (vp_in_iff.mpr ⟨by omega, by omega⟩) dX2_depth_18 ?_
        refine lv_topi (fun xz24 exz24 => ?_)
        refine lv_iload_n hx hb dX2_depth_19 rfl (lv_at hl 2 rfl) ?_
        refine lv_iconst (v := 1) hx hb dX2_depth_20 (by decide) ?_
        refine lv_iadd hx hb dX2_depth_21 ?_
        refine lv_topi (fun xz25 exz25 => ?_)
        have fxz25 : xz25.toInt = xz15.toInt + (1 : Int) := by rw [exz25]; exact fb_addI (x := xz15) (y := (1 : Int32)) (by show -2147483648 ≤ xz15.toInt + (1 : Int); omega) (by show xz15.toInt + (1 : Int) < 2147483648; omega)
        refine lv_idiv hx hb dX2_depth_22 (fun h9 => by have h8 := zi_eq.mp h9; have h8 : xz25.toInt = (0 : Int) := h8; omega) ?_
        refine lv_topi (fun xz26 exz26 => ?_)
        refine lv_iadd hx hb dX2_depth_23 ?_
        refine lv_topi (fun xz27 exz27 => ?_)
        refine lv_istore_n (lv' := [(1, .int xz27), (0, .ref (qM 0)), (2, .int xz15)]) hx hb dX2_depth_24 rfl hl (by decide) rfl (fun ls hl => ?_)
        obtain ⟨xz28, exz28⟩ : ∃ y : Int32, y = xz15 + Int32.ofInt (1) := ⟨_, rfl⟩
        have fxz28 : xz28.toInt = xz15.toInt + (1) := by rw [exz28]; exact fb_addI (y := Int32.ofInt (1)) (by show -2147483648 ≤ xz15.toInt + (1); omega) (by show xz15.toInt + (1) < 2147483648; omega)
        refine lv_iinc (v := xz28) (lv' := [(2, .int xz28), (1, .int xz27), (0, .ref (qM 0))]) hx hb dX2_depth_25 hl (k := 2) rfl exz28.symm (by decide) rfl (fun ls hl => ?_)
        refine lv_goto (tgt := 4) hx hb dX2_depth_28 (by decide) ?_
        exact ih4 ls xz27 xz28 (by show (2147483647 - xz28.toInt).toNat < n9_4; omega) (by show 0 ≤ xz28.toInt; omega) (lv_sub hl [2, 1, 0] rfl)
  exact lp4_kz16 _ ls (0 : Int32) (0 : Int32) (Nat.lt_succ_self _) (by show 0 ≤ (0 : Int); omega) (lv_sub hl [2, 1, 0] rfl)
def wk_c_X2_cartBits : List Cond := .code yX2_cartBits cX2_cartBits 3 (some .int) :: ([.fieldLink RX2 18 "SagMemory$Memory" "size" "I", .fieldLink RX2 15 "SagMemory$Memory" "carts" "[I"] ++ (wsX20 ++ []))
theorem wkg_c_X2_cartBits : wk_c_X2_cartBits.all goodWord = true := by decide +kernel
set_option maxHeartbeats 4000000 in
set_option maxRecDepth 100000 in
theorem c_X2_cartBits (l : Launch) (dC : Nat → ClassId) (dI : Nat → Nat → Nat) (k : Nat → ClassId) (qM : Nat → Nat) (nM : Nat → Int32) (aM : Nat → Nat → Int32) (hnM : Rg 0 8 nM) : Met l yX2_cartBits wk_c_X2_cartBits ({ frames := 0, cells := 0, slots := 0, locals := 0 }) (va_Pc [.ref (qM 0)] (fun U => va_P (dC, dI) vwCl (List.flatten [(wMem qM k nM aM)]) U.heap ∧ va_K (dC, dI) vwCl (tK k) U)) (vp_Si (fun r : Int32 => True)) 0 0 (fun _ => False) := by
  refine Met.ofW (cc := cX2_cartBits) (maxL := 3) (ret := (some .int)) (by decide) rfl ?_
  intro p e s m args below meth c s₁ B hml hv
  obtain ⟨rfl, hP, hK⟩ := hv
  have hx := B.exec
  have hb := B.bytes
  have hr := B.returns
  have hts := atoms_spec (ws := wk_c_X2_cartBits) B.pre
  have hown : s.vm.findClass RX2 = some m.cls := findClass_of_methodNamed B.named
  have hlocks := B.notSynchronized
  have hP : va_P (dC, dI) vwCl (List.flatten [(wMem qM k nM aM)]) s.heap := hP
  have hl := lv_entry ([.ref (qM 0)]) (n := 3) (Nat.le_of_ble_eq_true rfl)
  rw [lg_entry_eq]
  generalize (lg_sl ([.ref (qM 0)]) ++ List.replicate (3 - (lg_sl ([.ref (qM 0)])).length) Slot.unset).toArray = ls at hl ⊢
  have hl : lv_has ls 3 [(0, .ref (qM 0))] := hl
  refine w_gen (fun Q hQ => ?_)
  refine lv_iconst (v := 0) hx hb dX2_cartBits_0 (by decide) ?_
  refine lv_istore_n (lv' := [(1, .int 0), (0, .ref (qM 0))]) hx hb dX2_cartBits_1 rfl hl (by decide) rfl (fun ls hl => ?_)
  refine lv_iconst (v := 0) hx hb dX2_cartBits_2 (by decide) ?_
  refine lv_istore_n (lv' := [(2, .int 0), (1, .int 0), (0, .ref (qM 0))]) hx hb dX2_cartBits_3 rfl hl (by decide) rfl (fun ls hl => ?_)
  have lp4_kz15 : ∀ (n9_4 : Nat) (ls : Array Slot) (xz13 : Int32) (xz14 : Int32), (2147483647 - xz14.toInt).toNat < n9_4 → 0 ≤ xz14.toInt → lv_has ls 3 [(0, .ref (qM 0)), (1, .int xz13), (2, .int xz14)] → W p l e (headSpec wk_c_X2_cartBits ({ frames := 0, cells := 0, slots := 0, locals := 0 })).room s m ([.ref (qM 0)] : List Value).toArray below meth c s.heap [] 0 0 Q (F0 m 4 ls []) := by
    intro n9_4
    induction n9_4 with
    | zero => intro ls xz13 xz14 hm; exact absurd hm (Nat.not_lt_zero _)
    | succ n9_4 ih4 =>
      intro ls xz13 xz14 hm4 jz16 hl
      refine lv_iload_n hx hb dX2_cartBits_4 rfl (lv_at hl 2 rfl) ?_
      refine lv_aload_n hx hb dX2_cartBits_5 rfl (lv_at hl 0 rfl) ?_
      refine va_get (D := (dC, dI)) (ci := 2) (v := .int (nM 0)) (C := RX2) (T := TX2) (N := 3) hx hb hts (fun w h => List.mem_cons_of_mem _ (List.mem_append_right _ (List.mem_append_left _ h))) hown hK hP 0 rfl rfl 2 (by decide) (hts (.fieldLink RX2 18 "SagMemory$Memory" "size" "I") (wl_mem 0 rfl)) (fun _ h9 => h9) rfl dX2_cartBits_6 ?_
      have bz17 := hnM 0
      refine lv_icmp_ge (tgt := 29) hx hb dX2_cartBits_9 (by decide) (fun cz18 => ?_) (fun cz18 => ?_)
      · skip
        have bz19 := fb_rng xz14
        have zz20 : (nM 0).toInt ≤ xz14.toInt := zi_le.mp cz18
        refine lv_iload_n hx hb dX2_cartBits_29 rfl (lv_at hl 1 rfl) ?_
        rw [hQ]
        exact W.iret (v := xz13) hx hb hr (fun t ht hW => ⟨xz13, rfl, trivial, ht⟩) (fun _ h => absurd h List.not_mem_nil) dX2_cartBits_30
      · skip
        have bz21 := fb_rng xz14
        have zz22 : ¬ (nM 0).toInt ≤ xz14.toInt := fun h9 => cz18 (zi_le.mpr h9)
        refine lv_iload_n hx hb dX2_cartBits_12 rfl (lv_at hl 1 rfl) ?_
        refine lv_iconst (v := 1) hx hb dX2_cartBits_13 (by decide) ?_
        refine lv_aload_n hx hb dX2_cartBits_14 rfl (lv_at hl 0 rfl) ?_
        refine va_get (D := (dC, dI)) (ci := 2) (v := .ref (qM 2)) (C := RX2) (T := TX2) (N := 3) hx hb hts (fun w h => List.mem_cons_of_mem _ (List.mem_append_right _ (List.mem_append_left _ h))) hown hK hP 0 rfl rfl 1 (by decide) (hts (.fieldLink RX2 15 "SagMemory$Memory" "carts" "[I") (wl_mem 1 rfl)) (fun _ h9 => h9) rfl dX2_cartBits_15 ?_
        refine lv_iload_n hx hb dX2_cartBits_18 rfl (lv_at hl 2 rfl) ?_
        refine va_iald hx hb hK hP 2 0 rfl rfl (vp_in_iff.mpr ⟨by omega, by omega⟩) dX2_cartBits_19 ?_
        refine lv_topi (fun xz23 exz23 => ?_)
        refine lv_ishl hx hb dX2_cartBits_20 ?_
        refine lv_topi (fun xz24 exz24 => ?_)
        refine lv_ior hx hb dX2_cartBits_21 ?_
        refine lv_topi (fun xz25 exz25 => ?_)
        refine lv_istore_n (lv' := [(1, .int xz25), (0, .ref (qM 0)), (2, .int xz14)]) hx hb dX2_cartBits_22 rfl hl (by decide) rfl (fun ls hl => ?_)
        obtain ⟨xz26, exz26⟩ : ∃ y : Int32, y = xz14 + Int32.ofInt (1) := ⟨_, rfl⟩
        have fxz26 : xz26.toInt = xz14.toInt + (1) := by rw [exz26]; exact fb_addI (y := Int32.ofInt (1)) (by show -2147483648 ≤ xz14.toInt + (1); omega) (by show xz14.toInt + (1) < 2147483648; omega)
        refine lv_iinc (v := xz26) (lv' := [(2, .int xz26), (1, .int xz25), (0, .ref (qM 0))]) hx hb dX2_cartBits_23 hl (k := 2) rfl exz26.symm (by decide) rfl (fun ls hl => ?_)
        refine lv_goto (tgt := 4) hx hb dX2_cartBits_26 (by decide) ?_
        exact ih4 ls xz25 xz26 (by show (2147483647 - xz26.toInt).toNat < n9_4; omega) (by show 0 ≤ xz26.toInt; omega) (lv_sub hl [2, 1, 0] rfl)
  exact lp4_kz15 _ ls (0 : Int32) (0 : Int32) (Nat.lt_succ_self _) (by show 0 ≤ (0 : Int); omega) (lv_sub hl [2, 1, 0] rfl)
def wk_c_X2_chill : List Cond := .code yX2_chill cX2_chill 4 none :: ([.fieldLink RX2 18 "SagMemory$Memory" "size" "I", .fieldLink RX2 9 "SagMemory$Memory" "loads" "[I"] ++ (wsX20 ++ []))
theorem wkg_c_X2_chill : wk_c_X2_chill.all goodWord = true := by decide +kernel
set_option maxHeartbeats 4000000 in
set_option maxRecDepth 100000 in
theorem c_X2_chill (l : Launch) (dC : Nat → ClassId) (dI : Nat → Nat → Nat) (k : Nat → ClassId) (sz : Nat) (qM : Nat → Nat) (nM : Nat → Int32) (aM : Nat → Nat → Int32) (p1 : Int32) (hnM : Rg 0 8 nM) : Met l yX2_chill wk_c_X2_chill ({ frames := 0, cells := 0, slots := 0, locals := 0 }) (va_Pc [.ref (qM 0), .int p1] (fun U => U.heap.size = sz ∧ va_P (dC, dI) vwCl (List.flatten [(wMem qM k nM aM)] ++ List.flatten ([] : List va_W)) U.heap ∧ va_K (dC, dI) vwCl (tK k) U ∧ va_D (fun _ => True) (List.flatten [(wMem qM k nM aM)] ++ List.flatten ([] : List va_W)))) (va_Qv (fun _ : Unit => True) (fun (_ : Unit) (t : State) => ∃ (nM' : Nat → Int32) (aM' : Nat → Nat → Int32), Rg 0 8 nM' ∧ va_P (dC, dI) vwCl (List.flatten [(wMem qM k nM' aM')] ++ List.flatten ([] : List va_W)) t.heap) (va_A (List.flatten [(wMem qM k nM aM)] ++ List.flatten ([] : List va_W)) sz)) 0 0 (va_A (List.flatten [(wMem qM k nM aM)] ++ List.flatten ([] : List va_W)) sz) := by
  refine Met.ofW (cc := cX2_chill) (maxL := 4) (ret := none) (by decide) rfl ?_
  intro p e s m args below meth c s₁ B hml hv
  obtain ⟨rfl, hsz, hP, hK, hD0⟩ := hv
  have hx := B.exec
  have hb := B.bytes
  have hr := B.returns
  have hts := atoms_spec (ws := wk_c_X2_chill) B.pre
  have hown : s.vm.findClass RX2 = some m.cls := findClass_of_methodNamed B.named
  have hlocks := B.notSynchronized
  subst hsz
  have hD := hD0.self (sz := s.heap.size)
  generalize hAe : va_A (List.flatten [(wMem qM k nM aM)] ++ List.flatten ([] : List va_W)) s.heap.size = A at hD ⊢
  have hA : ∀ q : Nat, s.heap.size ≤ q → A q := fun q h => by rw [← hAe]; exact Or.inr h
  have hS : va_S A s.heap s.heap [] := va_S.rf
  have hP : va_P (dC, dI) vwCl (List.flatten [(wMem qM k nM aM)] ++ List.flatten ([] : List va_W)) s.heap := hP
  have hl := lv_entry ([.ref (qM 0), .int p1]) (n := 4) (Nat.le_of_ble_eq_true rfl)
  rw [lg_entry_eq]
  generalize (lg_sl ([.ref (qM 0), .int p1]) ++ List.replicate (4 - (lg_sl ([.ref (qM 0), .int p1])).length) Slot.unset).toArray = ls at hl ⊢
  have hl : lv_has ls 4 [(0, .ref (qM 0)), (1, .int p1)] := hl
  refine w_gen (fun Q hQ => ?_)
  refine lv_iconst (v := 0) hx hb dX2_chill_0 (by decide) ?_
  refine lv_istore_n (lv' := [(2, .int 0), (0, .ref (qM 0)), (1, .int p1)]) hx hb dX2_chill_1 rfl hl (by decide) rfl (fun ls hl => ?_)
  refine lv_iconst (v := 0) hx hb dX2_chill_2 (by decide) ?_
  refine lv_istore_n (lv' := [(3, .int 0), (2, .int 0), (0, .ref (qM 0)), (1, .int p1)]) hx hb dX2_chill_3 rfl hl (by decide) rfl (fun ls hl => ?_)
  have lp4_kz34 : ∀ (n9_4 : Nat) (H : Heap) (locs : List Loc) (ls : Array Slot) (az31 : Nat → Nat → Int32) (xz32 : Int32) (xz33 : Int32), (2147483647 - xz33.toInt).toNat < n9_4 → 0 ≤ xz33.toInt → 0 ≤ xz32.toInt ∧ xz32.toInt ≤ 8 → va_P (dC, dI) vwCl (List.flatten [(wMem qM k nM az31)] ++ List.flatten ([] : List va_W)) H → va_D A (List.flatten [(wMem qM k nM az31)] ++ List.flatten ([] : List va_W)) → va_S A s.heap H locs → lv_has ls 4 [(0, .ref (qM 0)), (1, .int p1), (2, .int xz32), (3, .int xz33)] → W p l e (headSpec wk_c_X2_chill ({ frames := 0, cells := 0, slots := 0, locals := 0 })).room s m ([.ref (qM 0), .int p1] : List Value).toArray below meth c H locs 0 0 Q (F0 m 4 ls []) := by
    intro n9_4
    induction n9_4 with
    | zero => intro H locs ls az31 xz32 xz33 hm; exact absurd hm (Nat.not_lt_zero _)
    | succ n9_4 ih4 =>
      intro H locs ls az31 xz32 xz33 hm4 jz35 jz36 hP hD hS hl
      refine lv_iload_n hx hb dX2_chill_4 rfl (lv_at hl 3 rfl) ?_
      refine lv_aload_n hx hb dX2_chill_5 rfl (lv_at hl 0 rfl) ?_
      refine va_get (D := (dC, dI)) (ci := 2) (v := .int (nM 0)) (C := RX2) (T := TX2) (N := 3) hx hb hts (fun w h => List.mem_cons_of_mem _ (List.mem_append_right _ (List.mem_append_left _ h))) hown hK hP 0 rfl rfl 2 (by decide) (hts (.fieldLink RX2 18 "SagMemory$Memory" "size" "I") (wl_mem 0 rfl)) (fun _ h9 => h9) rfl dX2_chill_6 ?_
      have bz37 := hnM 0
      refine lv_icmp_ge (tgt := 41) hx hb dX2_chill_9 (by decide) (fun cz38 => ?_) (fun cz38 => ?_)
      · skip
        have bz39 := fb_rng xz33
        have zz40 : (nM 0).toInt ≤ xz33.toInt := zi_le.mp cz38
        refine lv_aload_n hx hb dX2_chill_41 rfl (lv_at hl 0 rfl) ?_
        refine lv_iload_n hx hb dX2_chill_42 rfl (lv_at hl 2 rfl) ?_
        refine va_put (D := (dC, dI)) (ci := 2) (v := .int xz32) (ty := .int) (C := RX2) (T := TX2) (N := 3) hx hb hts (fun w h => List.mem_cons_of_mem _ (List.mem_append_right _ (List.mem_append_left _ h))) tyX2 tyX2_ok nmX2 hown hK hP hD hS 0 rfl rfl 2 (by decide) (hts (.fieldLink RX2 18 "SagMemory$Memory" "size" "I") (wl_mem 0 rfl)) (fun _ h9 => h9) rfl (by decide +kernel) rfl rfl (Nat.le_of_ble_eq_true rfl) dX2_chill_43 (fun H locs hP hD hS => ?_)
        have hP : va_P (dC, dI) vwCl (List.flatten [(wMem qM k (va_up nM 0 xz32) az31)] ++ List.flatten ([] : List va_W)) H := hP
        have hD : va_D A (List.flatten [(wMem qM k (va_up nM 0 xz32) az31)] ++ List.flatten ([] : List va_W)) := hD
        rw [hQ]
        exact W.vret hx hb hr (fun t ht hW => ⟨⟨(), rfl, trivial, (va_up nM 0 xz32), az31, (rg_up hnM (by show 0 ≤ xz32.toInt ∧ xz32.toInt ≤ 8; omega)), by rw [ht]; exact hP⟩, hS.F ht⟩) hS.2.2 dX2_chill_46
      · skip
        have bz41 := fb_rng xz33
        have zz42 : ¬ (nM 0).toInt ≤ xz33.toInt := fun h9 => cz38 (zi_le.mpr h9)
        refine lv_aload_n hx hb dX2_chill_12 rfl (lv_at hl 0 rfl) ?_
        refine va_get (D := (dC, dI)) (ci := 2) (v := .ref (qM 1)) (C := RX2) (T := TX2) (N := 3) hx hb hts (fun w h => List.mem_cons_of_mem _ (List.mem_append_right _ (List.mem_append_left _ h))) hown hK hP 0 rfl rfl 0 (by decide) (hts (.fieldLink RX2 9 "SagMemory$Memory" "loads" "[I") (wl_mem 1 rfl)) (fun _ h9 => h9) rfl dX2_chill_13 ?_
        refine lv_iload_n hx hb dX2_chill_16 rfl (lv_at hl 3 rfl) ?_
        refine lv_dup2_11 hx hb dX2_chill_17 rfl rfl ?_
        refine va_iald hx hb hK hP 1 0 rfl rfl (vp_in_iff.mpr ⟨by omega, by omega⟩) dX2_chill_18 ?_
        refine lv_topi (fun xz43 exz43 => ?_)
        refine lv_iload_n hx hb dX2_chill_19 rfl (lv_at hl 1 rfl) ?_
        refine lv_isub hx hb dX2_chill_20 ?_
        refine lv_topi (fun xz44 exz44 => ?_)
        refine va_iast hx hb hK hP hD hS 1 0 rfl rfl (vp_in_iff.mpr ⟨by omega, by omega⟩) dX2_chill_21 (fun H locs hP hD hS => ?_)
        obtain ⟨fz45, efz45, hP, hD⟩ : ∃ fz45 : Nat → Int32, fz45 = upd (az31 0) xz33.toNatClampNeg xz44 ∧ va_P (dC, dI) vwCl (List.flatten [(wMem qM k nM (va_up az31 0 fz45))] ++ List.flatten ([] : List va_W)) H ∧ va_D A (List.flatten [(wMem qM k nM (va_up az31 0 fz45))] ++ List.flatten ([] : List va_W)) := ⟨_, rfl, hP, hD⟩
        have kfz45 : fz45 xz33.toNatClampNeg = xz44 := by rw [efz45]; exact pk_us
        refine lv_aload_n hx hb dX2_chill_22 rfl (lv_at hl 0 rfl) ?_
        refine va_get (D := (dC, dI)) (ci := 2) (v := .ref (qM 1)) (C := RX2) (T := TX2) (N := 3) hx hb hts (fun w h => List.mem_cons_of_mem _ (List.mem_append_right _ (List.mem_append_left _ h))) hown hK hP 0 rfl rfl 0 (by decide) (hts (.fieldLink RX2 9 "SagMemory$Memory" "loads" "[I") (wl_mem 1 rfl)) (fun _ h9 => h9) rfl dX2_chill_23 ?_
        refine lv_iload_n hx hb dX2_chill_26 rfl (lv_at hl 3 rfl) ?_
        refine va_iald hx hb hK hP 1 0 rfl rfl (vp_in_iff.mpr ⟨by omega, by omega⟩) dX2_chill_27 ?_
        refine lv_topi (fun xz46 exz46 => ?_)
        obtain rfl : xz44 = xz46 := (exz46.trans kfz45).symm
        have ct35_kz54 : ∀ (H : Heap) (locs : List Loc) (ls : Array Slot) (xz53 : Int32), 0 ≤ xz53.toInt ∧ xz53.toInt ≤ 8 → va_P (dC, dI) vwCl (List.flatten [(wMem qM k nM (va_up az31 0 fz45))] ++ List.flatten ([] : List va_W)) H → va_D A (List.flatten [(wMem qM k nM (va_up az31 0 fz45))] ++ List.flatten ([] : List va_W)) → va_S A s.heap H locs → lv_has ls 4 [(0, .ref (qM 0)), (1, .int p1), (2, .int xz53), (3, .int xz33)] → W p l e (headSpec wk_c_X2_chill ({ frames := 0, cells := 0, slots := 0, locals := 0 })).room s m ([.ref (qM 0), .int p1] : List Value).toArray below meth c H locs 0 0 Q (F0 m 35 ls []) := by
          intro H locs ls xz53 jz55 hP hD hS hl
          obtain ⟨xz56, exz56⟩ : ∃ y : Int32, y = xz33 + Int32.ofInt (1) := ⟨_, rfl⟩
          have fxz56 : xz56.toInt = xz33.toInt + (1) := by rw [exz56]; exact fb_addI (y := Int32.ofInt (1)) (by show -2147483648 ≤ xz33.toInt + (1); omega) (by show xz33.toInt + (1) < 2147483648; omega)
          refine lv_iinc (v := xz56) (lv' := [(3, .int xz56), (0, .ref (qM 0)), (1, .int p1), (2, .int xz53)]) hx hb dX2_chill_35 hl (k := 3) rfl exz56.symm (by decide) rfl (fun ls hl => ?_)
          refine lv_goto (tgt := 4) hx hb dX2_chill_38 (by decide) ?_
          exact ih4 H locs ls (va_up az31 0 fz45) xz53 xz56 (by show (2147483647 - xz56.toInt).toNat < n9_4; omega) (by show 0 ≤ xz56.toInt; omega) (by show 0 ≤ xz53.toInt ∧ xz53.toInt ≤ 8; omega) hP hD hS (lv_sub hl [1, 2, 3, 0] rfl)
        refine lv_if_le (tgt := 35) hx hb dX2_chill_28 (by decide) (fun cz57 => ?_) (fun cz57 => ?_)
        · skip
          have bz58 := fb_rng xz44
          have zz59 : xz44.toInt ≤ (0 : Int) := zi_le.mp cz57
          exact ct35_kz54 H locs ls xz32  (by show 0 ≤ xz32.toInt ∧ xz32.toInt ≤ 8; omega) hP hD hS (lv_sub hl [0, 1, 2, 3] rfl)
        · skip
          have bz60 := fb_rng xz44
          have zz61 : ¬ xz44.toInt ≤ (0 : Int) := fun h9 => cz57 (zi_le.mpr h9)
          refine lv_iload_n hx hb dX2_chill_31 rfl (lv_at hl 3 rfl) ?_
          refine lv_iconst (v := 1) hx hb dX2_chill_32 (by decide) ?_
          refine lv_iadd hx hb dX2_chill_33 ?_
          refine lv_topi (fun xz62 exz62 => ?_)
          have fxz62 : xz62.toInt = xz33.toInt + (1 : Int) := by rw [exz62]; exact fb_addI (x := xz33) (y := (1 : Int32)) (by show -2147483648 ≤ xz33.toInt + (1 : Int); omega) (by show xz33.toInt + (1 : Int) < 2147483648; omega)
          refine lv_istore_n (lv' := [(2, .int xz62), (0, .ref (qM 0)), (1, .int p1), (3, .int xz33)]) hx hb dX2_chill_34 rfl hl (by decide) rfl (fun ls hl => ?_)
          exact ct35_kz54 H locs ls xz62  (by show 0 ≤ xz62.toInt ∧ xz62.toInt ≤ 8; omega) hP hD hS (lv_sub hl [1, 2, 0, 3] rfl)
  exact lp4_kz34 _ s.heap [] ls aM (0 : Int32) (0 : Int32) (Nat.lt_succ_self _) (by show 0 ≤ (0 : Int); omega) (by show 0 ≤ (0 : Int) ∧ (0 : Int) ≤ 8; omega) hP hD hS (lv_sub hl [2, 3, 1, 0] rfl)
def wk_c_X2_take : List Cond := .code yX2_take cX2_take 3 none :: ([.fieldLink RX2 18 "SagMemory$Memory" "size" "I", .fieldLink RX2 9 "SagMemory$Memory" "loads" "[I", .fieldLink RX2 15 "SagMemory$Memory" "carts" "[I"] ++ (wsX20 ++ []))
theorem wkg_c_X2_take : wk_c_X2_take.all goodWord = true := by decide +kernel
set_option maxHeartbeats 4000000 in
set_option maxRecDepth 100000 in
theorem c_X2_take (l : Launch) (dC : Nat → ClassId) (dI : Nat → Nat → Nat) (k : Nat → ClassId) (sz : Nat) (qM : Nat → Nat) (nM : Nat → Int32) (aM : Nat → Nat → Int32) (qO : Nat → Nat) (nO : Nat → Int32) (aO : Nat → Nat → Int32) (hnM : Rg 0 8 nM) (hnO : Rg 0 8 nO) : Met l yX2_take wk_c_X2_take ({ frames := 0, cells := 0, slots := 0, locals := 0 }) (va_Pc [.ref (qM 0), .ref (qO 0)] (fun U => U.heap.size = sz ∧ va_P (dC, dI) vwCl (List.flatten [(wMem qM k nM aM)] ++ List.flatten [(wMem qO k nO aO)]) U.heap ∧ va_K (dC, dI) vwCl (tK k) U ∧ va_D (fun _ => True) (List.flatten [(wMem qM k nM aM)] ++ List.flatten [(wMem qO k nO aO)]))) (va_Qv (fun _ : Unit => True) (fun (_ : Unit) (t : State) => ∃ (nM' : Nat → Int32) (aM' : Nat → Nat → Int32), Rg 0 8 nM' ∧ va_P (dC, dI) vwCl (List.flatten [(wMem qM k nM' aM')] ++ List.flatten [(wMem qO k nO aO)]) t.heap) (va_A (List.flatten [(wMem qM k nM aM)] ++ List.flatten [(wMem qO k nO aO)]) sz)) 0 0 (va_A (List.flatten [(wMem qM k nM aM)] ++ List.flatten [(wMem qO k nO aO)]) sz) := by
  refine Met.ofW (cc := cX2_take) (maxL := 3) (ret := none) (by decide) rfl ?_
  intro p e s m args below meth c s₁ B hml hv
  obtain ⟨rfl, hsz, hP, hK, hD0⟩ := hv
  have hx := B.exec
  have hb := B.bytes
  have hr := B.returns
  have hts := atoms_spec (ws := wk_c_X2_take) B.pre
  have hown : s.vm.findClass RX2 = some m.cls := findClass_of_methodNamed B.named
  have hlocks := B.notSynchronized
  subst hsz
  have hD := hD0.self (sz := s.heap.size)
  generalize hAe : va_A (List.flatten [(wMem qM k nM aM)] ++ List.flatten [(wMem qO k nO aO)]) s.heap.size = A at hD ⊢
  have hA : ∀ q : Nat, s.heap.size ≤ q → A q := fun q h => by rw [← hAe]; exact Or.inr h
  have hS : va_S A s.heap s.heap [] := va_S.rf
  have hP : va_P (dC, dI) vwCl (List.flatten [(wMem qM k nM aM)] ++ List.flatten [(wMem qO k nO aO)]) s.heap := hP
  have hl := lv_entry ([.ref (qM 0), .ref (qO 0)]) (n := 3) (Nat.le_of_ble_eq_true rfl)
  rw [lg_entry_eq]
  generalize (lg_sl ([.ref (qM 0), .ref (qO 0)]) ++ List.replicate (3 - (lg_sl ([.ref (qM 0), .ref (qO 0)])).length) Slot.unset).toArray = ls at hl ⊢
  have hl : lv_has ls 3 [(0, .ref (qM 0)), (1, .ref (qO 0))] := hl
  refine w_gen (fun Q hQ => ?_)
  refine lv_aload_n hx hb dX2_take_0 rfl (lv_at hl 0 rfl) ?_
  refine lv_aload_n hx hb dX2_take_1 rfl (lv_at hl 1 rfl) ?_
  refine va_get (D := (dC, dI)) (ci := 2) (v := .int (nO 0)) (C := RX2) (T := TX2) (N := 3) hx hb hts (fun w h => List.mem_cons_of_mem _ (List.mem_append_right _ (List.mem_append_left _ h))) hown hK hP 3 rfl rfl 2 (by decide) (hts (.fieldLink RX2 18 "SagMemory$Memory" "size" "I") (wl_mem 0 rfl)) (fun _ h9 => h9) rfl dX2_take_2 ?_
  have bz1 := hnO 0
  refine va_put (D := (dC, dI)) (ci := 2) (v := .int (nO 0)) (ty := .int) (C := RX2) (T := TX2) (N := 3) hx hb hts (fun w h => List.mem_cons_of_mem _ (List.mem_append_right _ (List.mem_append_left _ h))) tyX2 tyX2_ok nmX2 hown hK hP hD hS 0 rfl rfl 2 (by decide) (hts (.fieldLink RX2 18 "SagMemory$Memory" "size" "I") (wl_mem 0 rfl)) (fun _ h9 => h9) rfl (by decide +kernel) rfl rfl (Nat.le_of_ble_eq_true rfl) dX2_take_5 (fun H locs hP hD hS => ?_)
  have hP : va_P (dC, dI) vwCl (List.flatten [(wMem qM k (va_up nM 0 (nO 0)) aM)] ++ List.flatten [(wMem qO k nO aO)]) H := hP
  have hD : va_D A (List.flatten [(wMem qM k (va_up nM 0 (nO 0)) aM)] ++ List.flatten [(wMem qO k nO aO)]) := hD
  refine lv_iconst (v := 0) hx hb dX2_take_8 (by decide) ?_
  refine lv_istore_n (lv' := [(2, .int 0), (0, .ref (qM 0)), (1, .ref (qO 0))]) hx hb dX2_take_9 rfl hl (by decide) rfl (fun ls hl => ?_)
  have lp10_kz18 : ∀ (n9_10 : Nat) (H : Heap) (locs : List Loc) (ls : Array Slot) (az16 : Nat → Nat → Int32) (xz17 : Int32), (2147483647 - xz17.toInt).toNat < n9_10 → 0 ≤ xz17.toInt → va_P (dC, dI) vwCl (List.flatten [(wMem qM k (va_up nM 0 (nO 0)) az16)] ++ List.flatten [(wMem qO k nO aO)]) H → va_D A (List.flatten [(wMem qM k (va_up nM 0 (nO 0)) az16)] ++ List.flatten [(wMem qO k nO aO)]) → va_S A s.heap H locs → lv_has ls 3 [(0, .ref (qM 0)), (1, .ref (qO 0)), (2, .int xz17)] → W p l e (headSpec wk_c_X2_take ({ frames := 0, cells := 0, slots := 0, locals := 0 })).room s m ([.ref (qM 0), .ref (qO 0)] : List Value).toArray below meth c H locs 0 0 Q (F0 m 10 ls []) := by
    intro n9_10
    induction n9_10 with
    | zero => intro H locs ls az16 xz17 hm; exact absurd hm (Nat.not_lt_zero _)
    | succ n9_10 ih10 =>
      intro H locs ls az16 xz17 hm10 jz19 hP hD hS hl
      refine lv_iload_n hx hb dX2_take_10 rfl (lv_at hl 2 rfl) ?_
      refine lv_aload_n hx hb dX2_take_11 rfl (lv_at hl 0 rfl) ?_
      refine va_get (D := (dC, dI)) (ci := 2) (v := .int (nO 0)) (C := RX2) (T := TX2) (N := 3) hx hb hts (fun w h => List.mem_cons_of_mem _ (List.mem_append_right _ (List.mem_append_left _ h))) hown hK hP 0 rfl rfl 2 (by decide) (hts (.fieldLink RX2 18 "SagMemory$Memory" "size" "I") (wl_mem 0 rfl)) (fun _ h9 => h9) rfl dX2_take_12 ?_
      refine lv_icmp_ge (tgt := 48) hx hb dX2_take_15 (by decide) (fun cz20 => ?_) (fun cz20 => ?_)
      · skip
        have bz21 := fb_rng xz17
        have zz22 : (nO 0).toInt ≤ xz17.toInt := zi_le.mp cz20
        rw [hQ]
        exact W.vret hx hb hr (fun t ht hW => ⟨⟨(), rfl, trivial, (va_up nM 0 (nO 0)), az16, (rg_up hnM (by show 0 ≤ (nO 0).toInt ∧ (nO 0).toInt ≤ 8; omega)), by rw [ht]; exact hP⟩, hS.F ht⟩) hS.2.2 dX2_take_48
      · skip
        have bz23 := fb_rng xz17
        have zz24 : ¬ (nO 0).toInt ≤ xz17.toInt := fun h9 => cz20 (zi_le.mpr h9)
        refine lv_aload_n hx hb dX2_take_18 rfl (lv_at hl 0 rfl) ?_
        refine va_get (D := (dC, dI)) (ci := 2) (v := .ref (qM 1)) (C := RX2) (T := TX2) (N := 3) hx hb hts (fun w h => List.mem_cons_of_mem _ (List.mem_append_right _ (List.mem_append_left _ h))) hown hK hP 0 rfl rfl 0 (by decide) (hts (.fieldLink RX2 9 "SagMemory$Memory" "loads" "[I") (wl_mem 1 rfl)) (fun _ h9 => h9) rfl dX2_take_19 ?_
        refine lv_iload_n hx hb dX2_take_22 rfl (lv_at hl 2 rfl) ?_
        refine lv_aload_n hx hb dX2_take_23 rfl (lv_at hl 1 rfl) ?_
        refine va_get (D := (dC, dI)) (ci := 2) (v := .ref (qO 1)) (C := RX2) (T := TX2) (N := 3) hx hb hts (fun w h => List.mem_cons_of_mem _ (List.mem_append_right _ (List.mem_append_left _ h))) hown hK hP 3 rfl rfl 0 (by decide) (hts (.fieldLink RX2 9 "SagMemory$Memory" "loads" "[I") (wl_mem 1 rfl)) (fun _ h9 => h9) rfl dX2_take_24 ?_
        refine lv_iload_n hx hb dX2_take_27 rfl (lv_at hl 2 rfl) ?_
        refine va_iald hx hb hK hP 4 0 rfl rfl (vp_in_iff.mpr ⟨by omega, by omega⟩) dX2_take_28 ?_
        refine lv_topi (fun xz25 exz25 => ?_)
        refine va_iast hx hb hK hP hD hS 1 0 rfl rfl (vp_in_iff.mpr ⟨by omega, by omega⟩) dX2_take_29 (fun H locs hP hD hS => ?_)
        obtain ⟨fz26, efz26, hP, hD⟩ : ∃ fz26 : Nat → Int32, fz26 = upd (az16 0) xz17.toNatClampNeg xz25 ∧ va_P (dC, dI) vwCl (List.flatten [(wMem qM k (va_up nM 0 (nO 0)) (va_up az16 0 fz26))] ++ List.flatten [(wMem qO k nO aO)]) H ∧ va_D A (List.flatten [(wMem qM k (va_up nM 0 (nO 0)) (va_up az16 0 fz26))] ++ List.flatten [(wMem qO k nO aO)]) := ⟨_, rfl, hP, hD⟩
        have kfz26 : fz26 xz17.toNatClampNeg = xz25 := by rw [efz26]; exact pk_us
        refine lv_aload_n hx hb dX2_take_30 rfl (lv_at hl 0 rfl) ?_
        refine va_get (D := (dC, dI)) (ci := 2) (v := .ref (qM 2)) (C := RX2) (T := TX2) (N := 3) hx hb hts (fun w h => List.mem_cons_of_mem _ (List.mem_append_right _ (List.mem_append_left _ h))) hown hK hP 0 rfl rfl 1 (by decide) (hts (.fieldLink RX2 15 "SagMemory$Memory" "carts" "[I") (wl_mem 2 rfl)) (fun _ h9 => h9) rfl dX2_take_31 ?_
        refine lv_iload_n hx hb dX2_take_34 rfl (lv_at hl 2 rfl) ?_
        refine lv_aload_n hx hb dX2_take_35 rfl (lv_at hl 1 rfl) ?_
        refine va_get (D := (dC, dI)) (ci := 2) (v := .ref (qO 2)) (C := RX2) (T := TX2) (N := 3) hx hb hts (fun w h => List.mem_cons_of_mem _ (List.mem_append_right _ (List.mem_append_left _ h))) hown hK hP 3 rfl rfl 1 (by decide) (hts (.fieldLink RX2 15 "SagMemory$Memory" "carts" "[I") (wl_mem 2 rfl)) (fun _ h9 => h9) rfl dX2_take_36 ?_
        refine lv_iload_n hx hb dX2_take_39 rfl (lv_at hl 2 rfl) ?_
        refine va_iald hx hb hK hP 5 0 rfl rfl (vp_in_iff.mpr ⟨by omega, by omega⟩) dX2_take_40 ?_
        refine lv_topi (fun xz27 exz27 => ?_)
        refine va_iast hx hb hK hP hD hS 2 0 rfl rfl (vp_in_iff.mpr ⟨by omega, by omega⟩) dX2_take_41 (fun H locs hP hD hS => ?_)
        obtain ⟨fz28, efz28, hP, hD⟩ : ∃ fz28 : Nat → Int32, fz28 = upd (az16 1) xz17.toNatClampNeg xz27 ∧ va_P (dC, dI) vwCl (List.flatten [(wMem qM k (va_up nM 0 (nO 0)) (va_up (va_up az16 0 fz26) 1 fz28))] ++ List.flatten [(wMem qO k nO aO)]) H ∧ va_D A (List.flatten [(wMem qM k (va_up nM 0 (nO 0)) (va_up (va_up az16 0 fz26) 1 fz28))] ++ List.flatten [(wMem qO k nO aO)]) := ⟨_, rfl, hP, hD⟩
        have kfz28 : fz28 xz17.toNatClampNeg = xz27 := by rw [efz28]; exact pk_us
        obtain ⟨xz29, exz29⟩ : ∃ y : Int32, y = xz17 + Int32.ofInt (1) := ⟨_, rfl⟩
        have fxz29 : xz29.toInt = xz17.toInt + (1) := by rw [exz29]; exact fb_addI (y := Int32.ofInt (1)) (by show -2147483648 ≤ xz17.toInt + (1); omega) (by show xz17.toInt + (1) < 2147483648; omega)
        refine lv_iinc (v := xz29) (lv' := [(2, .int xz29), (0, .ref (qM 0)), (1, .ref (qO 0))]) hx hb dX2_take_42 hl (k := 2) rfl exz29.symm (by decide) rfl (fun ls hl => ?_)
        refine lv_goto (tgt := 10) hx hb dX2_take_45 (by decide) ?_
        exact ih10 H locs ls (va_up (va_up az16 0 fz26) 1 fz28) xz29 (by show (2147483647 - xz29.toInt).toNat < n9_10; omega) (by show 0 ≤ xz29.toInt; omega) hP hD hS (lv_sub hl [1, 2, 0] rfl)
  exact lp10_kz18 _ H locs ls aM (0 : Int32) (Nat.lt_succ_self _) (by show 0 ≤ (0 : Int); omega) hP hD hS (lv_sub hl [1, 2, 0] rfl)
def wk_c_X2_pass : List Cond := .code yX2_pass cX2_pass 8 (some .int) :: ([.fieldLink RX2 18 "SagMemory$Memory" "size" "I", .fieldLink RX2 9 "SagMemory$Memory" "loads" "[I", .fieldLink RX2 15 "SagMemory$Memory" "carts" "[I"] ++ (wsX20 ++ []))
theorem wkg_c_X2_pass : wk_c_X2_pass.all goodWord = true := by decide +kernel
set_option maxHeartbeats 4000000 in
set_option maxRecDepth 100000 in
theorem c_X2_pass (l : Launch) (dC : Nat → ClassId) (dI : Nat → Nat → Nat) (k : Nat → ClassId) (sz : Nat) (qM : Nat → Nat) (nM : Nat → Int32) (aM : Nat → Nat → Int32) (p1 : Int32) (p2 : Int32) (p3 : Int32) (hnM : Rg 0 8 nM) (hp0 : 0 ≤ p1.toInt ∧ p1.toInt ≤ 99) : Met l yX2_pass wk_c_X2_pass ({ frames := 0, cells := 0, slots := 0, locals := 0 }) (va_Pc [.ref (qM 0), .int p1, .int p2, .int p3] (fun U => U.heap.size = sz ∧ va_P (dC, dI) vwCl (List.flatten [(wMem qM k nM aM)] ++ List.flatten ([] : List va_W)) U.heap ∧ va_K (dC, dI) vwCl (tK k) U ∧ va_D (fun _ => True) (List.flatten [(wMem qM k nM aM)] ++ List.flatten ([] : List va_W)))) (va_Qi (fun (r : Int32) (_ : Unit) => True) (fun (_ : Unit) (t : State) => ∃ (nM' : Nat → Int32) (aM' : Nat → Nat → Int32), Rg 0 8 nM' ∧ va_P (dC, dI) vwCl (List.flatten [(wMem qM k nM' aM')] ++ List.flatten ([] : List va_W)) t.heap) (va_A (List.flatten [(wMem qM k nM aM)] ++ List.flatten ([] : List va_W)) sz)) 0 0 (va_A (List.flatten [(wMem qM k nM aM)] ++ List.flatten ([] : List va_W)) sz) := by
  refine Met.ofW (cc := cX2_pass) (maxL := 8) (ret := (some .int)) (by decide) rfl ?_
  intro p e s m args below meth c s₁ B hml hv
  obtain ⟨rfl, hsz, hP, hK, hD0⟩ := hv
  have hx := B.exec
  have hb := B.bytes
  have hr := B.returns
  have hts := atoms_spec (ws := wk_c_X2_pass) B.pre
  have hown : s.vm.findClass RX2 = some m.cls := findClass_of_methodNamed B.named
  have hlocks := B.notSynchronized
  subst hsz
  have hD := hD0.self (sz := s.heap.size)
  generalize hAe : va_A (List.flatten [(wMem qM k nM aM)] ++ List.flatten ([] : List va_W)) s.heap.size = A at hD ⊢
  have hA : ∀ q : Nat, s.heap.size ≤ q → A q := fun q h => by rw [← hAe]; exact Or.inr h
  have hS : va_S A s.heap s.heap [] := va_S.rf
  have hP : va_P (dC, dI) vwCl (List.flatten [(wMem qM k nM aM)] ++ List.flatten ([] : List va_W)) s.heap := hP
  have hl := lv_entry ([.ref (qM 0), .int p1, .int p2, .int p3]) (n := 8) (Nat.le_of_ble_eq_true rfl)
  rw [lg_entry_eq]
  generalize (lg_sl ([.ref (qM 0), .int p1, .int p2, .int p3]) ++ List.replicate (8 - (lg_sl ([.ref (qM 0), .int p1, .int p2, .int p3])).length) Slot.unset).toArray = ls at hl ⊢
  have hl : lv_has ls 8 [(0, .ref (qM 0)), (1, .int p1), (2, .int p2), (3, .int p3)] := hl
  refine w_gen (fun Q hQ => ?_)
  refine lv_aload_n hx hb dX2_pass_0 rfl (lv_at hl 0 rfl) ?_
  refine va_get (D := (dC, dI)) (ci := 2) (v := .int (nM 0)) (C := RX2) (T := TX2) (N := 3) hx hb hts (fun w h => List.mem_cons_of_mem _ (List.mem_append_right _ (List.mem_append_left _ h))) hown hK hP 0 rfl rfl 2 (by decide) (hts (.fieldLink RX2 18 "SagMemory$Memory" "size" "I") (wl_mem 0 rfl)) (fun _ h9 => h9) rfl dX2_pass_1 ?_
  have bz1 := hnM 0
  have ct24_kz8 : ∀ (H : Heap) (locs : List Loc) (ls : Array Slot) (xz7 : Int32), xz7.toInt ≤ 0 ∨ 0 < (nM 0).toInt → va_P (dC, dI) vwCl (List.flatten [(wMem qM k nM aM)] ++ List.flatten ([] : List va_W)) H → va_D A (List.flatten [(wMem qM k nM aM)] ++ List.flatten ([] : List va_W)) → va_S A s.heap H locs → lv_has ls 8 [(0, .ref (qM 0)), (1, .int p1), (2, .int p2), (3, .int p3), (4, .int xz7)] → W p l e (headSpec wk_c_X2_pass ({ frames := 0, cells := 0, slots := 0, locals := 0 })).room s m ([.ref (qM 0), .int p1, .int p2, .int p3] : List Value).toArray below meth c H locs 0 0 Q (F0 m 24 ls []) := by
    intro H locs ls xz7 jz9 hP hD hS hl
    refine lv_iload_n hx hb dX2_pass_24 rfl (lv_at hl 1 rfl) ?_
    refine lv_iconst (v := 2) hx hb dX2_pass_25 (by decide) ?_
    refine lv_irem hx hb dX2_pass_26 (by decide) ?_
    refine lv_topi (fun xz10 exz10 => ?_)
    have ct37_kz15 : ∀ (H : Heap) (locs : List Loc) (ls : Array Slot) (xz14 : Int32), 0 ≤ xz14.toInt ∧ xz14.toInt ≤ 1 → va_P (dC, dI) vwCl (List.flatten [(wMem qM k nM aM)] ++ List.flatten ([] : List va_W)) H → va_D A (List.flatten [(wMem qM k nM aM)] ++ List.flatten ([] : List va_W)) → va_S A s.heap H locs → lv_has ls 8 [(0, .ref (qM 0)), (1, .int p1), (2, .int p2), (3, .int p3), (4, .int xz7), (5, .int xz14)] → W p l e (headSpec wk_c_X2_pass ({ frames := 0, cells := 0, slots := 0, locals := 0 })).room s m ([.ref (qM 0), .int p1, .int p2, .int p3] : List Value).toArray below meth c H locs 0 0 Q (F0 m 37 ls []) := by
      intro H locs ls xz14 jz16 hP hD hS hl
      refine lv_iload_n hx hb dX2_pass_37 rfl (lv_at hl 3 rfl) ?_
      refine lv_iconst (v := 1) hx hb dX2_pass_38 (by decide) ?_
      have ct72_kz40 : ∀ (H : Heap) (locs : List Loc) (ls : Array Slot), va_P (dC, dI) vwCl (List.flatten [(wMem qM k nM aM)] ++ List.flatten ([] : List va_W)) H → va_D A (List.flatten [(wMem qM k nM aM)] ++ List.flatten ([] : List va_W)) → va_S A s.heap H locs → lv_has ls 8 [(0, .ref (qM 0)), (1, .int p1), (2, .int p2), (3, .int p3), (4, .int xz7)] → W p l e (headSpec wk_c_X2_pass ({ frames := 0, cells := 0, slots := 0, locals := 0 })).room s m ([.ref (qM 0), .int p1, .int p2, .int p3] : List Value).toArray below meth c H locs 0 0 Q (F0 m 72 ls []) := by
        intro H locs ls  hP hD hS hl
        refine lv_iload_n hx hb dX2_pass_72 rfl (lv_at hl 3 rfl) ?_
        refine lv_iconst (v := 2) hx hb dX2_pass_73 (by decide) ?_
        have ct94_kz53 : ∀ (H : Heap) (locs : List Loc) (ls : Array Slot), va_P (dC, dI) vwCl (List.flatten [(wMem qM k nM aM)] ++ List.flatten ([] : List va_W)) H → va_D A (List.flatten [(wMem qM k nM aM)] ++ List.flatten ([] : List va_W)) → va_S A s.heap H locs → lv_has ls 8 [(0, .ref (qM 0)), (1, .int p1), (2, .int p2)] → W p l e (headSpec wk_c_X2_pass ({ frames := 0, cells := 0, slots := 0, locals := 0 })).room s m ([.ref (qM 0), .int p1, .int p2, .int p3] : List Value).toArray below meth c H locs 0 0 Q (F0 m 94 ls []) := by
          intro H locs ls  hP hD hS hl
          refine lv_aload_n hx hb dX2_pass_94 rfl (lv_at hl 0 rfl) ?_
          refine va_get (D := (dC, dI)) (ci := 2) (v := .int (nM 0)) (C := RX2) (T := TX2) (N := 3) hx hb hts (fun w h => List.mem_cons_of_mem _ (List.mem_append_right _ (List.mem_append_left _ h))) hown hK hP 0 rfl rfl 2 (by decide) (hts (.fieldLink RX2 18 "SagMemory$Memory" "size" "I") (wl_mem 0 rfl)) (fun _ h9 => h9) rfl dX2_pass_95 ?_
          refine lv_istore (lv' := [(6, .int (nM 0)), (0, .ref (qM 0)), (1, .int p1), (2, .int p2)]) hx hb dX2_pass_98 hl (by decide) rfl (fun ls hl => ?_)
          have lp100_kz81 : ∀ (n9_100 : Nat) (H : Heap) (locs : List Loc) (ls : Array Slot) (nz80 : Nat → Int32), ((nz80 0).toInt + 2147483648).toNat < n9_100 → Rg 0 8 nz80 → va_P (dC, dI) vwCl (List.flatten [(wMem qM k nz80 aM)] ++ List.flatten ([] : List va_W)) H → va_D A (List.flatten [(wMem qM k nz80 aM)] ++ List.flatten ([] : List va_W)) → va_S A s.heap H locs → lv_has ls 8 [(0, .ref (qM 0)), (1, .int p1), (2, .int p2), (6, .int (nM 0))] → W p l e (headSpec wk_c_X2_pass ({ frames := 0, cells := 0, slots := 0, locals := 0 })).room s m ([.ref (qM 0), .int p1, .int p2, .int p3] : List Value).toArray below meth c H locs 0 0 Q (F0 m 100 ls []) := by
            intro n9_100
            induction n9_100 with
            | zero => intro H locs ls nz80 hm; exact absurd hm (Nat.not_lt_zero _)
            | succ n9_100 ih100 =>
              intro H locs ls nz80 hm100 hnz80 hP hD hS hl
              refine lv_aload_n hx hb dX2_pass_100 rfl (lv_at hl 0 rfl) ?_
              refine va_get (D := (dC, dI)) (ci := 2) (v := .int (nz80 0)) (C := RX2) (T := TX2) (N := 3) hx hb hts (fun w h => List.mem_cons_of_mem _ (List.mem_append_right _ (List.mem_append_left _ h))) hown hK hP 0 rfl rfl 2 (by decide) (hts (.fieldLink RX2 18 "SagMemory$Memory" "size" "I") (wl_mem 0 rfl)) (fun _ h9 => h9) rfl dX2_pass_101 ?_
              have bz82 := hnz80 0
              have ct135_kz94 : ∀ (H : Heap) (locs : List Loc) (ls : Array Slot), va_P (dC, dI) vwCl (List.flatten [(wMem qM k nz80 aM)] ++ List.flatten ([] : List va_W)) H → va_D A (List.flatten [(wMem qM k nz80 aM)] ++ List.flatten ([] : List va_W)) → va_S A s.heap H locs → lv_has ls 8 [(0, .ref (qM 0)), (1, .int p1), (2, .int p2), (6, .int (nM 0))] → W p l e (headSpec wk_c_X2_pass ({ frames := 0, cells := 0, slots := 0, locals := 0 })).room s m ([.ref (qM 0), .int p1, .int p2, .int p3] : List Value).toArray below meth c H locs 0 0 Q (F0 m 135 ls []) := by
                intro H locs ls  hP hD hS hl
                refine lv_iload hx hb dX2_pass_135 (lv_at hl 3 rfl) ?_
                refine lv_aload_n hx hb dX2_pass_137 rfl (lv_at hl 0 rfl) ?_
                refine va_get (D := (dC, dI)) (ci := 2) (v := .int (nz80 0)) (C := RX2) (T := TX2) (N := 3) hx hb hts (fun w h => List.mem_cons_of_mem _ (List.mem_append_right _ (List.mem_append_left _ h))) hown hK hP 0 rfl rfl 2 (by decide) (hts (.fieldLink RX2 18 "SagMemory$Memory" "size" "I") (wl_mem 0 rfl)) (fun _ h9 => h9) rfl dX2_pass_138 ?_
                refine lv_isub hx hb dX2_pass_141 ?_
                refine lv_topi (fun xz95 exz95 => ?_)
                have fxz95 : xz95.toInt = (nM 0).toInt - (nz80 0).toInt := by rw [exz95]; exact fb_subI (x := (nM 0)) (y := (nz80 0)) (by show -2147483648 ≤ (nM 0).toInt - (nz80 0).toInt; omega) (by show (nM 0).toInt - (nz80 0).toInt < 2147483648; omega)
                refine lv_istore (lv' := [(7, .int xz95), (0, .ref (qM 0)), (1, .int p1), (2, .int p2), (6, .int (nM 0))]) hx hb dX2_pass_142 hl (by decide) rfl (fun ls hl => ?_)
                refine lv_aload_n hx hb dX2_pass_144 rfl (lv_at hl 1 rfl) ?_
                refine va_get (D := (dC, dI)) (ci := 2) (v := .int (nz80 0)) (C := RX2) (T := TX2) (N := 3) hx hb hts (fun w h => List.mem_cons_of_mem _ (List.mem_append_right _ (List.mem_append_left _ h))) hown hK hP 0 rfl rfl 2 (by decide) (hts (.fieldLink RX2 18 "SagMemory$Memory" "size" "I") (wl_mem 0 rfl)) (fun _ h9 => h9) rfl dX2_pass_145 ?_
                refine lv_bipush (v := 8) hx hb dX2_pass_148 (by decide) ?_
                refine lv_icmp_ge (tgt := 183) hx hb dX2_pass_150 (by decide) (fun cz96 => ?_) (fun cz96 => ?_)
                · skip
                  have zz97 : (8 : Int) ≤ (nz80 0).toInt := zi_le.mp cz96
                  refine lv_iload hx hb dX2_pass_183 (lv_at hl 0 rfl) ?_
                  rw [hQ]
                  exact W.iret (v := xz95) hx hb hr (fun t ht hW => ⟨⟨xz95, (), rfl, trivial, nz80, aM, hnz80, by rw [ht]; exact hP⟩, hS.F ht⟩) hS.2.2 dX2_pass_185
                · skip
                  have zz98 : ¬ (8 : Int) ≤ (nz80 0).toInt := fun h9 => cz96 (zi_le.mpr h9)
                  refine lv_aload_n hx hb dX2_pass_153 rfl (lv_at hl 1 rfl) ?_
                  refine va_get (D := (dC, dI)) (ci := 2) (v := .ref (qM 1)) (C := RX2) (T := TX2) (N := 3) hx hb hts (fun w h => List.mem_cons_of_mem _ (List.mem_append_right _ (List.mem_append_left _ h))) hown hK hP 0 rfl rfl 0 (by decide) (hts (.fieldLink RX2 9 "SagMemory$Memory" "loads" "[I") (wl_mem 1 rfl)) (fun _ h9 => h9) rfl dX2_pass_154 ?_
                  refine lv_aload_n hx hb dX2_pass_157 rfl (lv_at hl 1 rfl) ?_
                  refine va_get (D := (dC, dI)) (ci := 2) (v := .int (nz80 0)) (C := RX2) (T := TX2) (N := 3) hx hb hts (fun w h => List.mem_cons_of_mem _ (List.mem_append_right _ (List.mem_append_left _ h))) hown hK hP 0 rfl rfl 2 (by decide) (hts (.fieldLink RX2 18 "SagMemory$Memory" "size" "I") (wl_mem 0 rfl)) (fun _ h9 => h9) rfl dX2_pass_158 ?_
                  refine lv_iload_n hx hb dX2_pass_161 rfl (lv_at hl 2 rfl) ?_
                  refine va_iast hx hb hK hP hD hS 1 0 rfl rfl (vp_in_iff.mpr ⟨by omega, by omega⟩) dX2_pass_162 (fun H locs hP hD hS => ?_)
                  obtain ⟨fz99, efz99, hP, hD⟩ : ∃ fz99 : Nat → Int32, fz99 = upd (aM 0) (nz80 0).toNatClampNeg p1 ∧ va_P (dC, dI) vwCl (List.flatten [(wMem qM k nz80 (va_up aM 0 fz99))] ++ List.flatten ([] : List va_W)) H ∧ va_D A (List.flatten [(wMem qM k nz80 (va_up aM 0 fz99))] ++ List.flatten ([] : List va_W)) := ⟨_, rfl, hP, hD⟩
                  have kfz99 : fz99 (nz80 0).toNatClampNeg = p1 := by rw [efz99]; exact pk_us
                  refine lv_aload_n hx hb dX2_pass_163 rfl (lv_at hl 1 rfl) ?_
                  refine va_get (D := (dC, dI)) (ci := 2) (v := .ref (qM 2)) (C := RX2) (T := TX2) (N := 3) hx hb hts (fun w h => List.mem_cons_of_mem _ (List.mem_append_right _ (List.mem_append_left _ h))) hown hK hP 0 rfl rfl 1 (by decide) (hts (.fieldLink RX2 15 "SagMemory$Memory" "carts" "[I") (wl_mem 2 rfl)) (fun _ h9 => h9) rfl dX2_pass_164 ?_
                  refine lv_aload_n hx hb dX2_pass_167 rfl (lv_at hl 1 rfl) ?_
                  refine va_get (D := (dC, dI)) (ci := 2) (v := .int (nz80 0)) (C := RX2) (T := TX2) (N := 3) hx hb hts (fun w h => List.mem_cons_of_mem _ (List.mem_append_right _ (List.mem_append_left _ h))) hown hK hP 0 rfl rfl 2 (by decide) (hts (.fieldLink RX2 18 "SagMemory$Memory" "size" "I") (wl_mem 0 rfl)) (fun _ h9 => h9) rfl dX2_pass_168 ?_
                  refine lv_iload_n hx hb dX2_pass_171 rfl (lv_at hl 3 rfl) ?_
                  refine va_iast hx hb hK hP hD hS 2 0 rfl rfl (vp_in_iff.mpr ⟨by omega, by omega⟩) dX2_pass_172 (fun H locs hP hD hS => ?_)
                  obtain ⟨fz100, efz100, hP, hD⟩ : ∃ fz100 : Nat → Int32, fz100 = upd (aM 1) (nz80 0).toNatClampNeg p2 ∧ va_P (dC, dI) vwCl (List.flatten [(wMem qM k nz80 (va_up (va_up aM 0 fz99) 1 fz100))] ++ List.flatten ([] : List va_W)) H ∧ va_D A (List.flatten [(wMem qM k nz80 (va_up (va_up aM 0 fz99) 1 fz100))] ++ List.flatten ([] : List va_W)) := ⟨_, rfl, hP, hD⟩
                  have kfz100 : fz100 (nz80 0).toNatClampNeg = p2 := by rw [efz100]; exact pk_us
                  refine lv_aload_n hx hb dX2_pass_173 rfl (lv_at hl 1 rfl) ?_
                  refine lv_dup hx hb dX2_pass_174 rfl ?_
                  refine va_get (D := (dC, dI)) (ci := 2) (v := .int (nz80 0)) (C := RX2) (T := TX2) (N := 3) hx hb hts (fun w h => List.mem_cons_of_mem _ (List.mem_append_right _ (List.mem_append_left _ h))) hown hK hP 0 rfl rfl 2 (by decide) (hts (.fieldLink RX2 18 "SagMemory$Memory" "size" "I") (wl_mem 0 rfl)) (fun _ h9 => h9) rfl dX2_pass_175 ?_
                  refine lv_iconst (v := 1) hx hb dX2_pass_178 (by decide) ?_
                  refine lv_iadd hx hb dX2_pass_179 ?_
                  refine lv_topi (fun xz101 exz101 => ?_)
                  have fxz101 : xz101.toInt = (nz80 0).toInt + (1 : Int) := by rw [exz101]; exact fb_addI (x := (nz80 0)) (y := (1 : Int32)) (by show -2147483648 ≤ (nz80 0).toInt + (1 : Int); omega) (by show (nz80 0).toInt + (1 : Int) < 2147483648; omega)
                  refine va_put (D := (dC, dI)) (ci := 2) (v := .int xz101) (ty := .int) (C := RX2) (T := TX2) (N := 3) hx hb hts (fun w h => List.mem_cons_of_mem _ (List.mem_append_right _ (List.mem_append_left _ h))) tyX2 tyX2_ok nmX2 hown hK hP hD hS 0 rfl rfl 2 (by decide) (hts (.fieldLink RX2 18 "SagMemory$Memory" "size" "I") (wl_mem 0 rfl)) (fun _ h9 => h9) rfl (by decide +kernel) rfl rfl (Nat.le_of_ble_eq_true rfl) dX2_pass_180 (fun H locs hP hD hS => ?_)
                  have hP : va_P (dC, dI) vwCl (List.flatten [(wMem qM k (va_up nz80 0 xz101) (va_up (va_up aM 0 fz99) 1 fz100))] ++ List.flatten ([] : List va_W)) H := hP
                  have hD : va_D A (List.flatten [(wMem qM k (va_up nz80 0 xz101) (va_up (va_up aM 0 fz99) 1 fz100))] ++ List.flatten ([] : List va_W)) := hD
                  refine lv_iload hx hb dX2_pass_183 (lv_at hl 0 rfl) ?_
                  rw [hQ]
                  exact W.iret (v := xz95) hx hb hr (fun t ht hW => ⟨⟨xz95, (), rfl, trivial, (va_up nz80 0 xz101), (va_up (va_up aM 0 fz99) 1 fz100), (rg_up hnz80 (by show 0 ≤ xz101.toInt ∧ xz101.toInt ≤ 8; omega)), by rw [ht]; exact hP⟩, hS.F ht⟩) hS.2.2 dX2_pass_185
              refine lv_if_le (tgt := 135) hx hb dX2_pass_104 (by decide) (fun cz102 => ?_) (fun cz102 => ?_)
              · skip
                have zz103 : (nz80 0).toInt ≤ (0 : Int) := zi_le.mp cz102
                exact ct135_kz94 H locs ls   hP hD hS (lv_sub hl [0, 1, 2, 3] rfl)
              · skip
                have zz104 : ¬ (nz80 0).toInt ≤ (0 : Int) := fun h9 => cz102 (zi_le.mpr h9)
                refine lv_aload_n hx hb dX2_pass_107 rfl (lv_at hl 0 rfl) ?_
                refine va_get (D := (dC, dI)) (ci := 2) (v := .ref (qM 1)) (C := RX2) (T := TX2) (N := 3) hx hb hts (fun w h => List.mem_cons_of_mem _ (List.mem_append_right _ (List.mem_append_left _ h))) hown hK hP 0 rfl rfl 0 (by decide) (hts (.fieldLink RX2 9 "SagMemory$Memory" "loads" "[I") (wl_mem 1 rfl)) (fun _ h9 => h9) rfl dX2_pass_108 ?_
                refine lv_aload_n hx hb dX2_pass_111 rfl (lv_at hl 0 rfl) ?_
                refine va_get (D := (dC, dI)) (ci := 2) (v := .int (nz80 0)) (C := RX2) (T := TX2) (N := 3) hx hb hts (fun w h => List.mem_cons_of_mem _ (List.mem_append_right _ (List.mem_append_left _ h))) hown hK hP 0 rfl rfl 2 (by decide) (hts (.fieldLink RX2 18 "SagMemory$Memory" "size" "I") (wl_mem 0 rfl)) (fun _ h9 => h9) rfl dX2_pass_112 ?_
                refine lv_iconst (v := 1) hx hb dX2_pass_115 (by decide) ?_
                refine lv_isub hx hb dX2_pass_116 ?_
                refine lv_topi (fun xz105 exz105 => ?_)
                have fxz105 : xz105.toInt = (nz80 0).toInt - (1 : Int) := by rw [exz105]; exact fb_subI (x := (nz80 0)) (y := (1 : Int32)) (by show -2147483648 ≤ (nz80 0).toInt - (1 : Int); omega) (by show (nz80 0).toInt - (1 : Int) < 2147483648; omega)
                refine va_iald hx hb hK hP 1 0 rfl rfl (vp_in_iff.mpr ⟨by omega, by omega⟩) dX2_pass_117 ?_
                refine lv_topi (fun xz106 exz106 => ?_)
                refine lv_iload_n hx hb dX2_pass_118 rfl (lv_at hl 1 rfl) ?_
                refine lv_icmp_gt (tgt := 135) hx hb dX2_pass_119 (by decide) (fun cz107 => ?_) (fun cz107 => ?_)
                · skip
                  have bz108 := fb_rng xz106
                  have zz109 : p1.toInt < xz106.toInt := zi_lt.mp cz107
                  exact ct135_kz94 H locs ls   hP hD hS (lv_sub hl [0, 1, 2, 3] rfl)
                · skip
                  have bz110 := fb_rng xz106
                  have zz111 : ¬ p1.toInt < xz106.toInt := fun h9 => cz107 (zi_lt.mpr h9)
                  refine lv_aload_n hx hb dX2_pass_122 rfl (lv_at hl 0 rfl) ?_
                  refine lv_dup hx hb dX2_pass_123 rfl ?_
                  refine va_get (D := (dC, dI)) (ci := 2) (v := .int (nz80 0)) (C := RX2) (T := TX2) (N := 3) hx hb hts (fun w h => List.mem_cons_of_mem _ (List.mem_append_right _ (List.mem_append_left _ h))) hown hK hP 0 rfl rfl 2 (by decide) (hts (.fieldLink RX2 18 "SagMemory$Memory" "size" "I") (wl_mem 0 rfl)) (fun _ h9 => h9) rfl dX2_pass_124 ?_
                  refine lv_iconst (v := 1) hx hb dX2_pass_127 (by decide) ?_
                  refine lv_isub hx hb dX2_pass_128 ?_
                  refine lv_topi (fun xz112 exz112 => ?_)
                  have fxz112 : xz112.toInt = (nz80 0).toInt - (1 : Int) := by rw [exz112]; exact fb_subI (x := (nz80 0)) (y := (1 : Int32)) (by show -2147483648 ≤ (nz80 0).toInt - (1 : Int); omega) (by show (nz80 0).toInt - (1 : Int) < 2147483648; omega)
                  refine va_put (D := (dC, dI)) (ci := 2) (v := .int xz112) (ty := .int) (C := RX2) (T := TX2) (N := 3) hx hb hts (fun w h => List.mem_cons_of_mem _ (List.mem_append_right _ (List.mem_append_left _ h))) tyX2 tyX2_ok nmX2 hown hK hP hD hS 0 rfl rfl 2 (by decide) (hts (.fieldLink RX2 18 "SagMemory$Memory" "size" "I") (wl_mem 0 rfl)) (fun _ h9 => h9) rfl (by decide +kernel) rfl rfl (Nat.le_of_ble_eq_true rfl) dX2_pass_129 (fun H locs hP hD hS => ?_)
                  have hP : va_P (dC, dI) vwCl (List.flatten [(wMem qM k (va_up nz80 0 xz112) aM)] ++ List.flatten ([] : List va_W)) H := hP
                  have hD : va_D A (List.flatten [(wMem qM k (va_up nz80 0 xz112) aM)] ++ List.flatten ([] : List va_W)) := hD
                  refine lv_goto (tgt := 100) hx hb dX2_pass_132 (by decide) ?_
                  exact ih100 H locs ls (va_up nz80 0 xz112) (by show (xz112.toInt + 2147483648).toNat < n9_100; omega) (rg_up hnz80 (by show 0 ≤ xz112.toInt ∧ xz112.toInt ≤ 8; omega)) hP hD hS (lv_sub hl [0, 1, 2, 3] rfl)
          exact lp100_kz81 _ H locs ls nM (Nat.lt_succ_self _) hnM hP hD hS (lv_sub hl [1, 2, 3, 0] rfl)
        refine lv_icmp_ne (tgt := 94) hx hb dX2_pass_74 (by decide) (fun cz113 => ?_) (fun cz113 => ?_)
        · skip
          have zz114 : ¬ p3.toInt = (2 : Int) := fun h9 => cz113 (zi_eq.mpr h9)
          exact ct94_kz53 H locs ls   hP hD hS (lv_sub hl [0, 1, 2] rfl)
        · skip
          have zz115 : p3.toInt = (2 : Int) := zi_eq.mp cz113
          refine lv_aload_n hx hb dX2_pass_77 rfl (lv_at hl 0 rfl) ?_
          refine va_get (D := (dC, dI)) (ci := 2) (v := .int (nM 0)) (C := RX2) (T := TX2) (N := 3) hx hb hts (fun w h => List.mem_cons_of_mem _ (List.mem_append_right _ (List.mem_append_left _ h))) hown hK hP 0 rfl rfl 2 (by decide) (hts (.fieldLink RX2 18 "SagMemory$Memory" "size" "I") (wl_mem 0 rfl)) (fun _ h9 => h9) rfl dX2_pass_78 ?_
          refine lv_if_le (tgt := 94) hx hb dX2_pass_81 (by decide) (fun cz116 => ?_) (fun cz116 => ?_)
          · skip
            have zz117 : (nM 0).toInt ≤ (0 : Int) := zi_le.mp cz116
            exact ct94_kz53 H locs ls   hP hD hS (lv_sub hl [0, 1, 2] rfl)
          · skip
            have zz118 : ¬ (nM 0).toInt ≤ (0 : Int) := fun h9 => cz116 (zi_le.mpr h9)
            refine lv_iconst (v := 2) hx hb dX2_pass_84 (by decide) ?_
            refine lv_iload_n hx hb dX2_pass_85 rfl (lv_at hl 1 rfl) ?_
            refine lv_imul hx hb dX2_pass_86 ?_
            refine lv_topi (fun xz119 exz119 => ?_)
            have fxz119 : xz119.toInt = (2 : Int) * p1.toInt := by rw [exz119]; exact fb_mulI (x := (2 : Int32)) (y := p1) (by show -2147483648 ≤ (2 : Int) * p1.toInt; omega) (by show (2 : Int) * p1.toInt < 2147483648; omega)
            refine lv_iload hx hb dX2_pass_87 (lv_at hl 4 rfl) ?_
            refine lv_icmp_gt (tgt := 94) hx hb dX2_pass_89 (by decide) (fun cz120 => ?_) (fun cz120 => ?_)
            · skip
              have bz121 := fb_rng xz7
              have zz122 : xz7.toInt < xz119.toInt := zi_lt.mp cz120
              exact ct94_kz53 H locs ls   hP hD hS (lv_sub hl [0, 1, 2] rfl)
            · skip
              have bz123 := fb_rng xz7
              have zz124 : ¬ xz7.toInt < xz119.toInt := fun h9 => cz120 (zi_lt.mpr h9)
              refine lv_iconst (v := 0) hx hb dX2_pass_92 (by decide) ?_
              rw [hQ]
              exact W.iret (v := (0 : Int32)) hx hb hr (fun t ht hW => ⟨⟨(0 : Int32), (), rfl, trivial, nM, aM, hnM, by rw [ht]; exact hP⟩, hS.F ht⟩) hS.2.2 dX2_pass_93
      have ct52_kz134 : ∀ (H : Heap) (locs : List Loc) (ls : Array Slot), va_P (dC, dI) vwCl (List.flatten [(wMem qM k nM aM)] ++ List.flatten ([] : List va_W)) H → va_D A (List.flatten [(wMem qM k nM aM)] ++ List.flatten ([] : List va_W)) → va_S A s.heap H locs → lv_has ls 8 [(0, .ref (qM 0)), (1, .int p1), (2, .int p2), (3, .int p3), (4, .int xz7)] → W p l e (headSpec wk_c_X2_pass ({ frames := 0, cells := 0, slots := 0, locals := 0 })).room s m ([.ref (qM 0), .int p1, .int p2, .int p3] : List Value).toArray below meth c H locs 0 0 Q (F0 m 52 ls []) := by
        intro H locs ls  hP hD hS hl
        refine lv_iconst (v := 2) hx hb dX2_pass_52 (by decide) ?_
        refine lv_iload_n hx hb dX2_pass_53 rfl (lv_at hl 1 rfl) ?_
        refine lv_imul hx hb dX2_pass_54 ?_
        refine lv_topi (fun xz135 exz135 => ?_)
        have fxz135 : xz135.toInt = (2 : Int) * p1.toInt := by rw [exz135]; exact fb_mulI (x := (2 : Int32)) (y := p1) (by show -2147483648 ≤ (2 : Int) * p1.toInt; omega) (by show (2 : Int) * p1.toInt < 2147483648; omega)
        refine lv_iload hx hb dX2_pass_55 (lv_at hl 4 rfl) ?_
        refine lv_icmp_ge (tgt := 72) hx hb dX2_pass_57 (by decide) (fun cz136 => ?_) (fun cz136 => ?_)
        · skip
          have bz137 := fb_rng xz7
          have zz138 : xz7.toInt ≤ xz135.toInt := zi_le.mp cz136
          exact ct72_kz40 H locs ls   hP hD hS (lv_sub hl [0, 1, 2, 3, 4] rfl)
        · skip
          have bz139 := fb_rng xz7
          have zz140 : ¬ xz7.toInt ≤ xz135.toInt := fun h9 => cz136 (zi_le.mpr h9)
          refine lv_aload_n hx hb dX2_pass_60 rfl (lv_at hl 0 rfl) ?_
          refine lv_dup hx hb dX2_pass_61 rfl ?_
          refine va_get (D := (dC, dI)) (ci := 2) (v := .int (nM 0)) (C := RX2) (T := TX2) (N := 3) hx hb hts (fun w h => List.mem_cons_of_mem _ (List.mem_append_right _ (List.mem_append_left _ h))) hown hK hP 0 rfl rfl 2 (by decide) (hts (.fieldLink RX2 18 "SagMemory$Memory" "size" "I") (wl_mem 0 rfl)) (fun _ h9 => h9) rfl dX2_pass_62 ?_
          refine lv_iconst (v := 1) hx hb dX2_pass_65 (by decide) ?_
          refine lv_isub hx hb dX2_pass_66 ?_
          refine lv_topi (fun xz141 exz141 => ?_)
          have fxz141 : xz141.toInt = (nM 0).toInt - (1 : Int) := by rw [exz141]; exact fb_subI (x := (nM 0)) (y := (1 : Int32)) (by show -2147483648 ≤ (nM 0).toInt - (1 : Int); omega) (by show (nM 0).toInt - (1 : Int) < 2147483648; omega)
          refine va_put (D := (dC, dI)) (ci := 2) (v := .int xz141) (ty := .int) (C := RX2) (T := TX2) (N := 3) hx hb hts (fun w h => List.mem_cons_of_mem _ (List.mem_append_right _ (List.mem_append_left _ h))) tyX2 tyX2_ok nmX2 hown hK hP hD hS 0 rfl rfl 2 (by decide) (hts (.fieldLink RX2 18 "SagMemory$Memory" "size" "I") (wl_mem 0 rfl)) (fun _ h9 => h9) rfl (by decide +kernel) rfl rfl (Nat.le_of_ble_eq_true rfl) dX2_pass_67 (fun H locs hP hD hS => ?_)
          have hP : va_P (dC, dI) vwCl (List.flatten [(wMem qM k (va_up nM 0 xz141) aM)] ++ List.flatten ([] : List va_W)) H := hP
          have hD : va_D A (List.flatten [(wMem qM k (va_up nM 0 xz141) aM)] ++ List.flatten ([] : List va_W)) := hD
          refine lv_iconst (v := 1) hx hb dX2_pass_70 (by decide) ?_
          rw [hQ]
          exact W.iret (v := (1 : Int32)) hx hb hr (fun t ht hW => ⟨⟨(1 : Int32), (), rfl, trivial, (va_up nM 0 xz141), aM, (rg_up hnM (by show 0 ≤ xz141.toInt ∧ xz141.toInt ≤ 8; omega)), by rw [ht]; exact hP⟩, hS.F ht⟩) hS.2.2 dX2_pass_71
      refine lv_icmp_eq (tgt := 52) hx hb dX2_pass_39 (by decide) (fun cz142 => ?_) (fun cz142 => ?_)
      · skip
        have zz143 : p3.toInt = (1 : Int) := zi_eq.mp cz142
        exact ct52_kz134 H locs ls   hP hD hS (lv_sub hl [0, 1, 2, 3, 4] rfl)
      · skip
        have zz144 : ¬ p3.toInt = (1 : Int) := fun h9 => cz142 (zi_eq.mpr h9)
        refine lv_iload_n hx hb dX2_pass_42 rfl (lv_at hl 3 rfl) ?_
        refine lv_iconst (v := 3) hx hb dX2_pass_43 (by decide) ?_
        refine lv_icmp_ne (tgt := 72) hx hb dX2_pass_44 (by decide) (fun cz145 => ?_) (fun cz145 => ?_)
        · skip
          have zz146 : ¬ p3.toInt = (3 : Int) := fun h9 => cz145 (zi_eq.mpr h9)
          exact ct72_kz40 H locs ls   hP hD hS (lv_sub hl [0, 1, 2, 3, 4] rfl)
        · skip
          have zz147 : p3.toInt = (3 : Int) := zi_eq.mp cz145
          refine lv_iload hx hb dX2_pass_47 (lv_at hl 5 rfl) ?_
          refine lv_if_eq (tgt := 72) hx hb dX2_pass_49 (by decide) (fun cz148 => ?_) (fun cz148 => ?_)
          · skip
            have zz149 : xz14.toInt = (0 : Int) := zi_eq.mp cz148
            exact ct72_kz40 H locs ls   hP hD hS (lv_sub hl [0, 1, 2, 3, 4] rfl)
          · skip
            have zz150 : ¬ xz14.toInt = (0 : Int) := fun h9 => cz148 (zi_eq.mpr h9)
            exact ct52_kz134 H locs ls   hP hD hS (lv_sub hl [0, 1, 2, 3, 4] rfl)
    refine lv_if_eq (tgt := 34) hx hb dX2_pass_27 (by decide) (fun cz151 => ?_) (fun cz151 => ?_)
    · skip
      have zz152 : xz10.toInt = (0 : Int) := zi_eq.mp cz151
      refine lv_iconst (v := 0) hx hb dX2_pass_34 (by decide) ?_
      refine lv_istore (lv' := [(5, .int 0), (0, .ref (qM 0)), (1, .int p1), (2, .int p2), (3, .int p3), (4, .int xz7)]) hx hb dX2_pass_35 hl (by decide) rfl (fun ls hl => ?_)
      exact ct37_kz15 H locs ls (0 : Int32)  (by show 0 ≤ (0 : Int) ∧ (0 : Int) ≤ 1; omega) hP hD hS (lv_sub hl [1, 2, 3, 4, 5, 0] rfl)
    · skip
      have zz153 : ¬ xz10.toInt = (0 : Int) := fun h9 => cz151 (zi_eq.mpr h9)
      refine lv_iconst (v := 1) hx hb dX2_pass_30 (by decide) ?_
      refine lv_goto (tgt := 35) hx hb dX2_pass_31 (by decide) ?_
      refine lv_istore (lv' := [(5, .int 1), (0, .ref (qM 0)), (1, .int p1), (2, .int p2), (3, .int p3), (4, .int xz7)]) hx hb dX2_pass_35 hl (by decide) rfl (fun ls hl => ?_)
      exact ct37_kz15 H locs ls (1 : Int32)  (by show 0 ≤ (1 : Int) ∧ (1 : Int) ≤ 1; omega) hP hD hS (lv_sub hl [1, 2, 3, 4, 5, 0] rfl)
  refine lv_if_le (tgt := 21) hx hb dX2_pass_4 (by decide) (fun cz154 => ?_) (fun cz154 => ?_)
  · skip
    have zz155 : (nM 0).toInt ≤ (0 : Int) := zi_le.mp cz154
    refine lv_iconst (v := 0) hx hb dX2_pass_21 (by decide) ?_
    refine lv_istore (lv' := [(4, .int 0), (0, .ref (qM 0)), (1, .int p1), (2, .int p2), (3, .int p3)]) hx hb dX2_pass_22 hl (by decide) rfl (fun ls hl => ?_)
    exact ct24_kz8 s.heap [] ls (0 : Int32)  (by show (0 : Int) ≤ 0 ∨ 0 < (nM 0).toInt; omega) hP hD hS (lv_sub hl [1, 2, 3, 4, 0] rfl)
  · skip
    have zz156 : ¬ (nM 0).toInt ≤ (0 : Int) := fun h9 => cz154 (zi_le.mpr h9)
    refine lv_aload_n hx hb dX2_pass_7 rfl (lv_at hl 0 rfl) ?_
    refine va_get (D := (dC, dI)) (ci := 2) (v := .ref (qM 1)) (C := RX2) (T := TX2) (N := 3) hx hb hts (fun w h => List.mem_cons_of_mem _ (List.mem_append_right _ (List.mem_append_left _ h))) hown hK hP 0 rfl rfl 0 (by decide) (hts (.fieldLink RX2 9 "SagMemory$Memory" "loads" "[I") (wl_mem 1 rfl)) (fun _ h9 => h9) rfl dX2_pass_8 ?_
    refine lv_aload_n hx hb dX2_pass_11 rfl (lv_at hl 0 rfl) ?_
    refine va_get (D := (dC, dI)) (ci := 2) (v := .int (nM 0)) (C := RX2) (T := TX2) (N := 3) hx hb hts (fun w h => List.mem_cons_of_mem _ (List.mem_append_right _ (List.mem_append_left _ h))) hown hK hP 0 rfl rfl 2 (by decide) (hts (.fieldLink RX2 18 "SagMemory$Memory" "size" "I") (wl_mem 0 rfl)) (fun _ h9 => h9) rfl dX2_pass_12 ?_
    refine lv_iconst (v := 1) hx hb dX2_pass_15 (by decide) ?_
    refine lv_isub hx hb dX2_pass_16 ?_
    refine lv_topi (fun xz157 exz157 => ?_)
    have fxz157 : xz157.toInt = (nM 0).toInt - (1 : Int) := by rw [exz157]; exact fb_subI (x := (nM 0)) (y := (1 : Int32)) (by show -2147483648 ≤ (nM 0).toInt - (1 : Int); omega) (by show (nM 0).toInt - (1 : Int) < 2147483648; omega)
    refine va_iald hx hb hK hP 1 0 rfl rfl (vp_in_iff.mpr ⟨by omega, by omega⟩) dX2_pass_17 ?_
    refine lv_topi (fun xz158 exz158 => ?_)
    refine lv_goto (tgt := 22) hx hb dX2_pass_18 (by decide) ?_
    refine lv_istore (lv' := [(4, .int xz158), (0, .ref (qM 0)), (1, .int p1), (2, .int p2), (3, .int p3)]) hx hb dX2_pass_22 hl (by decide) rfl (fun ls hl => ?_)
    exact ct24_kz8 s.heap [] ls xz158  (by show xz158.toInt ≤ 0 ∨ 0 < (nM 0).toInt; omega) hP hD hS (lv_sub hl [1, 2, 3, 4, 0] rfl)
