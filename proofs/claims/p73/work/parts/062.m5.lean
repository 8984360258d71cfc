def wk_c_copyRow_Li : List Cond := .code yX12_copyRow cX12_copyRow 5 none :: ([] ++ ([]))
theorem wkg_c_copyRow_Li : wk_c_copyRow_Li.all goodWord = true := by decide +kernel
set_option maxHeartbeats 4000000 in
set_option maxRecDepth 100000 in
theorem c_copyRow_Li (l : Launch) (dC : Nat → ClassId) (dI : Nat → Nat → Nat) (k : Nat → ClassId) (sz : Nat) (qLi : Nat → Nat) (aLi : Nat → Nat → Int32) (p3 : Int32) (p4 : Int32) (hp0 : 0 ≤ p3.toInt ∧ p3.toInt ≤ 4) (hp1 : 0 ≤ p4.toInt ∧ p4.toInt ≤ 4) : Met l yX12_copyRow wk_c_copyRow_Li ({ frames := 0, cells := 0, slots := 0, locals := 0 }) (va_Pc [.ref (qLi 0), .int 1, .int p3, .int p4] (fun U => U.heap.size = sz ∧ va_P (dC, dI) vwCl (List.flatten [(wmLi qLi k aLi)] ++ List.flatten ([] : List va_W)) U.heap ∧ va_K (dC, dI) vwCl (tK k) U ∧ va_D (fun _ => True) (List.flatten [(wmLi qLi k aLi)] ++ List.flatten ([] : List va_W)))) (va_Qv (fun _ : Unit => True) (fun (_ : Unit) (t : State) => ∃ (aLi' : Nat → Nat → Int32), va_P (dC, dI) vwCl (List.flatten [(wmLi qLi k aLi')] ++ List.flatten ([] : List va_W)) t.heap) (va_A (List.flatten [(wmLi qLi k aLi)] ++ List.flatten ([] : List va_W)) sz)) 0 0 (va_A (List.flatten [(wmLi qLi k aLi)] ++ List.flatten ([] : List va_W)) sz) := by
  refine Met.ofW (cc := cX12_copyRow) (maxL := 5) (ret := none) (by decide) rfl ?_
  intro p e s m args below meth c s₁ B hml hv
  obtain ⟨rfl, hsz, hP, hK, hD0⟩ := hv
  have hx := B.exec
  have hb := B.bytes
  have hr := B.returns
  have hts := atoms_spec (ws := wk_c_copyRow_Li) B.pre
  have hown : s.vm.findClass RX12 = some m.cls := findClass_of_methodNamed B.named
  have hlocks := B.notSynchronized
  subst hsz
  have hD := hD0.self (sz := s.heap.size)
  generalize hAe : va_A (List.flatten [(wmLi qLi k aLi)] ++ List.flatten ([] : List va_W)) s.heap.size = A at hD ⊢
  have hA : ∀ q : Nat, s.heap.size ≤ q → A q := fun q h => by rw [← hAe]; exact Or.inr h
  have hS : va_S A s.heap s.heap [] := va_S.rf
  have hP : va_P (dC, dI) vwCl (List.flatten [(wmLi qLi k aLi)] ++ List.flatten ([] : List va_W)) s.heap := hP
  have hl := lv_entry ([.ref (qLi 0), .int 1, .int p3, .int p4]) (n := 5) (Nat.le_of_ble_eq_true rfl)
  rw [lg_entry_eq]
  generalize (lg_sl ([.ref (qLi 0), .int 1, .int p3, .int p4]) ++ List.replicate (5 - (lg_sl ([.ref (qLi 0), .int 1, .int p3, .int p4])).length) Slot.unset).toArray = ls at hl ⊢
  have hl : lv_has ls 5 [(0, .ref (qLi 0)), (1, .int 1), (2, .int p3), (3, .int p4)] := hl
  refine w_gen (fun Q hQ => ?_)
  refine lv_iconst (v := 0) hx hb dX12_copyRow_0 (by decide) ?_
  refine lv_istore (lv' := [(4, .int 0), (0, .ref (qLi 0)), (1, .int 1), (2, .int p3), (3, .int p4)]) hx hb dX12_copyRow_1 hl (by decide) rfl (fun ls hl => ?_)
  have lp3_kz17 : ∀ (n9_3 : Nat) (H : Heap) (locs : List Loc) (ls : Array Slot) (az15 : Nat → Nat → Int32) (xz16 : Int32), (2147483647 - xz16.toInt).toNat < n9_3 → 0 ≤ xz16.toInt → va_P (dC, dI) vwCl (List.flatten [(wmLi qLi k az15)] ++ List.flatten ([] : List va_W)) H → va_D A (List.flatten [(wmLi qLi k az15)] ++ List.flatten ([] : List va_W)) → va_S A s.heap H locs → lv_has ls 5 [(0, .ref (qLi 0)), (1, .int 1), (2, .int p3), (3, .int p4), (4, .int xz16)] → W p l e (headSpec wk_c_copyRow_Li ({ frames := 0, cells := 0, slots := 0, locals := 0 })).room s m ([.ref (qLi 0), .int 1, .int p3, .int p4] : List Value).toArray below meth c H locs 0 0 Q (F0 m 3 ls []) := by
    intro n9_3
    induction n9_3 with
    | zero => intro H locs ls az15 xz16 hm; exact absurd hm (Nat.not_lt_zero _)
    | succ n9_3 ih3 =>
      intro H locs ls az15 xz16 hm3 jz18 hP hD hS hl
      refine lv_iload hx hb dX12_copyRow_3 (lv_at hl 4 rfl) ?_
      refine lv_iload_n hx hb dX12_copyRow_5 rfl (lv_at hl 1 rfl) ?_
      refine lv_icmp_ge (tgt := 31) hx hb dX12_copyRow_6 (by decide) (fun cz19 => ?_) (fun cz19 => ?_)
      · skip
        have bz20 := fb_rng xz16
        have zz21 : (1 : Int) ≤ xz16.toInt := zi_le.mp cz19
        rw [hQ]
        exact W.vret hx hb hr (fun t ht hW => ⟨⟨(), rfl, trivial, az15, by rw [ht]; exact hP⟩, hS.F ht⟩) hS.2.2 dX12_copyRow_31
      · skip
        have bz22 := fb_rng xz16
        have zz23 : ¬ (1 : Int) ≤ xz16.toInt := fun h9 => cz19 (zi_le.mpr h9)
        refine lv_aload_n hx hb dX12_copyRow_9 rfl (lv_at hl 0 rfl) ?_
        refine lv_iload_n hx hb dX12_copyRow_10 rfl (lv_at hl 1 rfl) ?_
        refine lv_iload_n hx hb dX12_copyRow_11 rfl (lv_at hl 3 rfl) ?_
        refine lv_imul hx hb dX12_copyRow_12 ?_
        refine lv_topi (fun xz24 exz24 => ?_)
        have fxz24 : xz24.toInt = (1 : Int) * p4.toInt := by rw [exz24]; exact fb_mulI (x := (1 : Int32)) (y := p4) (by show -2147483648 ≤ (1 : Int) * p4.toInt; omega) (by show (1 : Int) * p4.toInt < 2147483648; omega)
        refine lv_iload hx hb dX12_copyRow_13 (lv_at hl 4 rfl) ?_
        refine lv_iadd hx hb dX12_copyRow_15 ?_
        refine lv_topi (fun xz25 exz25 => ?_)
        have fxz25 : xz25.toInt = xz24.toInt + xz16.toInt := by rw [exz25]; exact fb_addI (x := xz24) (y := xz16) (by show -2147483648 ≤ xz24.toInt + xz16.toInt; omega) (by show xz24.toInt + xz16.toInt < 2147483648; omega)
        refine lv_aload_n hx hb dX12_copyRow_16 rfl (lv_at hl 0 rfl) ?_
        refine lv_iload_n hx hb dX12_copyRow_17 rfl (lv_at hl 1 rfl) ?_
        refine lv_iload_n hx hb dX12_copyRow_18 rfl (lv_at hl 2 rfl) ?_
        refine lv_imul hx hb dX12_copyRow_19 ?_
        refine lv_topi (fun xz26 exz26 => ?_)
        have fxz26 : xz26.toInt = (1 : Int) * p3.toInt := by rw [exz26]; exact fb_mulI (x := (1 : Int32)) (y := p3) (by show -2147483648 ≤ (1 : Int) * p3.toInt; omega) (by show (1 : Int) * p3.toInt < 2147483648; omega)
        refine lv_iload hx hb dX12_copyRow_20 (lv_at hl 4 rfl) ?_
        refine lv_iadd hx hb dX12_copyRow_22 ?_
        refine lv_topi (fun xz27 exz27 => ?_)
        have fxz27 : xz27.toInt = xz26.toInt + xz16.toInt := by rw [exz27]; exact fb_addI (x := xz26) (y := xz16) (by show -2147483648 ≤ xz26.toInt + xz16.toInt; omega) (by show xz26.toInt + xz16.toInt < 2147483648; omega)
        refine va_iald hx hb hK hP 0 0 rfl rfl (vp_in_iff.mpr ⟨by omega, by omega⟩) dX12_copyRow_23 ?_
        refine lv_topi (fun xz28 exz28 => ?_)
        refine va_iast hx hb hK hP hD hS 0 0 rfl rfl (vp_in_iff.mpr ⟨by omega, by omega⟩) dX12_copyRow_24 (fun H locs hP hD hS => ?_)
        obtain ⟨fz29, efz29, hP, hD⟩ : ∃ fz29 : Nat → Int32, fz29 = upd (az15 0) xz25.toNatClampNeg xz28 ∧ va_P (dC, dI) vwCl (List.flatten [(wmLi qLi k (va_up az15 0 fz29))] ++ List.flatten ([] : List va_W)) H ∧ va_D A (List.flatten [(wmLi qLi k (va_up az15 0 fz29))] ++ List.flatten ([] : List va_W)) := ⟨_, rfl, hP, hD⟩
        have kfz29 : fz29 xz25.toNatClampNeg = xz28 := by rw [efz29]; exact pk_us
        obtain ⟨xz30, exz30⟩ : ∃ y : Int32, y = xz16 + Int32.ofInt (1) := ⟨_, rfl⟩
        have fxz30 : xz30.toInt = xz16.toInt + (1) := by rw [exz30]; exact fb_addI (y := Int32.ofInt (1)) (by show -2147483648 ≤ xz16.toInt + (1); omega) (by show xz16.toInt + (1) < 2147483648; omega)
        refine lv_iinc (v := xz30) (lv' := [(4, .int xz30), (0, .ref (qLi 0)), (1, .int 1), (2, .int p3), (3, .int p4)]) hx hb dX12_copyRow_25 hl (k := 4) rfl exz30.symm (by decide) rfl (fun ls hl => ?_)
        refine lv_goto (tgt := 3) hx hb dX12_copyRow_28 (by decide) ?_
        exact ih3 H locs ls (va_up az15 0 fz29) xz30 (by show (2147483647 - xz30.toInt).toNat < n9_3; omega) (by show 0 ≤ xz30.toInt; omega) hP hD hS (lv_sub hl [1, 2, 3, 4, 0] rfl)
  exact lp3_kz17 _ s.heap [] ls aLi (0 : Int32) (Nat.lt_succ_self _) (by show 0 ≤ (0 : Int); omega) hP hD hS (lv_sub hl [1, 2, 3, 4, 0] rfl)
def wk_c_copyRow_Ha : List Cond := .code yX12_copyRow cX12_copyRow 5 none :: ([] ++ ([]))
theorem wkg_c_copyRow_Ha : wk_c_copyRow_Ha.all goodWord = true := by decide +kernel
set_option maxHeartbeats 4000000 in
set_option maxRecDepth 100000 in
theorem c_copyRow_Ha (l : Launch) (dC : Nat → ClassId) (dI : Nat → Nat → Nat) (k : Nat → ClassId) (sz : Nat) (qHa : Nat → Nat) (hHa : Nat → Nat → Int32) (p3 : Int32) (p4 : Int32) (hhHa : Pa_h hHa) (hp0 : 0 ≤ p3.toInt ∧ p3.toInt ≤ 4) (hp1 : 0 ≤ p4.toInt ∧ p4.toInt ≤ 4) : Met l yX12_copyRow wk_c_copyRow_Ha ({ frames := 0, cells := 0, slots := 0, locals := 0 }) (va_Pc [.ref (qHa 0), .int 8, .int p3, .int p4] (fun U => U.heap.size = sz ∧ va_P (dC, dI) vwCl (List.flatten [(wmHa qHa k hHa)] ++ List.flatten ([] : List va_W)) U.heap ∧ va_K (dC, dI) vwCl (tK k) U ∧ va_D (fun _ => True) (List.flatten [(wmHa qHa k hHa)] ++ List.flatten ([] : List va_W)))) (va_Qv (fun _ : Unit => True) (fun (_ : Unit) (t : State) => ∃ (hHa' : Nat → Nat → Int32), Pa_h hHa' ∧ va_P (dC, dI) vwCl (List.flatten [(wmHa qHa k hHa')] ++ List.flatten ([] : List va_W)) t.heap) (va_A (List.flatten [(wmHa qHa k hHa)] ++ List.flatten ([] : List va_W)) sz)) 0 0 (va_A (List.flatten [(wmHa qHa k hHa)] ++ List.flatten ([] : List va_W)) sz) := by
  refine Met.ofW (cc := cX12_copyRow) (maxL := 5) (ret := none) (by decide) rfl ?_
  intro p e s m args below meth c s₁ B hml hv
  obtain ⟨rfl, hsz, hP, hK, hD0⟩ := hv
  have hx := B.exec
  have hb := B.bytes
  have hr := B.returns
  have hts := atoms_spec (ws := wk_c_copyRow_Ha) B.pre
  have hown : s.vm.findClass RX12 = some m.cls := findClass_of_methodNamed B.named
  have hlocks := B.notSynchronized
  subst hsz
  have hD := hD0.self (sz := s.heap.size)
  generalize hAe : va_A (List.flatten [(wmHa qHa k hHa)] ++ List.flatten ([] : List va_W)) s.heap.size = A at hD ⊢
  have hA : ∀ q : Nat, s.heap.size ≤ q → A q := fun q h => by rw [← hAe]; exact Or.inr h
  have hS : va_S A s.heap s.heap [] := va_S.rf
  have hP : va_P (dC, dI) vwCl (List.flatten [(wmHa qHa k hHa)] ++ List.flatten ([] : List va_W)) s.heap := hP
  have hl := lv_entry ([.ref (qHa 0), .int 8, .int p3, .int p4]) (n := 5) (Nat.le_of_ble_eq_true rfl)
  rw [lg_entry_eq]
  generalize (lg_sl ([.ref (qHa 0), .int 8, .int p3, .int p4]) ++ List.replicate (5 - (lg_sl ([.ref (qHa 0), .int 8, .int p3, .int p4])).length) Slot.unset).toArray = ls at hl ⊢
  have hl : lv_has ls 5 [(0, .ref (qHa 0)), (1, .int 8), (2, .int p3), (3, .int p4)] := hl
  refine w_gen (fun Q hQ => ?_)
  refine lv_iconst (v := 0) hx hb dX12_copyRow_0 (by decide) ?_
  refine lv_istore (lv' := [(4, .int 0), (0, .ref (qHa 0)), (1, .int 8), (2, .int p3), (3, .int p4)]) hx hb dX12_copyRow_1 hl (by decide) rfl (fun ls hl => ?_)
  have lp3_kz17 : ∀ (n9_3 : Nat) (H : Heap) (locs : List Loc) (ls : Array Slot) (hz15 : Nat → Nat → Int32) (xz16 : Int32), (2147483647 - xz16.toInt).toNat < n9_3 → Pa_h hz15 → 0 ≤ xz16.toInt → va_P (dC, dI) vwCl (List.flatten [(wmHa qHa k hz15)] ++ List.flatten ([] : List va_W)) H → va_D A (List.flatten [(wmHa qHa k hz15)] ++ List.flatten ([] : List va_W)) → va_S A s.heap H locs → lv_has ls 5 [(0, .ref (qHa 0)), (1, .int 8), (2, .int p3), (3, .int p4), (4, .int xz16)] → W p l e (headSpec wk_c_copyRow_Ha ({ frames := 0, cells := 0, slots := 0, locals := 0 })).room s m ([.ref (qHa 0), .int 8, .int p3, .int p4] : List Value).toArray below meth c H locs 0 0 Q (F0 m 3 ls []) := by
    intro n9_3
    induction n9_3 with
    | zero => intro H locs ls hz15 xz16 hm; exact absurd hm (Nat.not_lt_zero _)
    | succ n9_3 ih3 =>
      intro H locs ls hz15 xz16 hm3 hhz15 jz18 hP hD hS hl
      refine lv_iload hx hb dX12_copyRow_3 (lv_at hl 4 rfl) ?_
      refine lv_iload_n hx hb dX12_copyRow_5 rfl (lv_at hl 1 rfl) ?_
      refine lv_icmp_ge (tgt := 31) hx hb dX12_copyRow_6 (by decide) (fun cz19 => ?_) (fun cz19 => ?_)
      · skip
        have bz20 := fb_rng xz16
        have zz21 : (8 : Int) ≤ xz16.toInt := zi_le.mp cz19
        rw [hQ]
        exact W.vret hx hb hr (fun t ht hW => ⟨⟨(), rfl, trivial, hz15, hhz15, by rw [ht]; exact hP⟩, hS.F ht⟩) hS.2.2 dX12_copyRow_31
      · skip
        have bz22 := fb_rng xz16
        have zz23 : ¬ (8 : Int) ≤ xz16.toInt := fun h9 => cz19 (zi_le.mpr h9)
        refine lv_aload_n hx hb dX12_copyRow_9 rfl (lv_at hl 0 rfl) ?_
        refine lv_iload_n hx hb dX12_copyRow_10 rfl (lv_at hl 1 rfl) ?_
        refine lv_iload_n hx hb dX12_copyRow_11 rfl (lv_at hl 3 rfl) ?_
        refine lv_imul hx hb dX12_copyRow_12 ?_
        refine lv_topi (fun xz24 exz24 => ?_)
        have fxz24 : xz24.toInt = (8 : Int) * p4.toInt := by rw [exz24]; exact fb_mulI (x := (8 : Int32)) (y := p4) (by show -2147483648 ≤ (8 : Int) * p4.toInt; omega) (by show (8 : Int) * p4.toInt < 2147483648; omega)
        refine lv_iload hx hb dX12_copyRow_13 (lv_at hl 4 rfl) ?_
        refine lv_iadd hx hb dX12_copyRow_15 ?_
        refine lv_topi (fun xz25 exz25 => ?_)
        have fxz25 : xz25.toInt = xz24.toInt + xz16.toInt := by rw [exz25]; exact fb_addI (x := xz24) (y := xz16) (by show -2147483648 ≤ xz24.toInt + xz16.toInt; omega) (by show xz24.toInt + xz16.toInt < 2147483648; omega)
        refine lv_aload_n hx hb dX12_copyRow_16 rfl (lv_at hl 0 rfl) ?_
        refine lv_iload_n hx hb dX12_copyRow_17 rfl (lv_at hl 1 rfl) ?_
        refine lv_iload_n hx hb dX12_copyRow_18 rfl (lv_at hl 2 rfl) ?_
        refine lv_imul hx hb dX12_copyRow_19 ?_
        refine lv_topi (fun xz26 exz26 => ?_)
        have fxz26 : xz26.toInt = (8 : Int) * p3.toInt := by rw [exz26]; exact fb_mulI (x := (8 : Int32)) (y := p3) (by show -2147483648 ≤ (8 : Int) * p3.toInt; omega) (by show (8 : Int) * p3.toInt < 2147483648; omega)
        refine lv_iload hx hb dX12_copyRow_20 (lv_at hl 4 rfl) ?_
        refine lv_iadd hx hb dX12_copyRow_22 ?_
        refine lv_topi (fun xz27 exz27 => ?_)
        have fxz27 : xz27.toInt = xz26.toInt + xz16.toInt := by rw [exz27]; exact fb_addI (x := xz26) (y := xz16) (by show -2147483648 ≤ xz26.toInt + xz16.toInt; omega) (by show xz26.toInt + xz16.toInt < 2147483648; omega)
        refine va_iald hx hb hK hP 0 0 rfl rfl (vp_in_iff.mpr ⟨by omega, by omega⟩) dX12_copyRow_23 ?_
        refine lv_topi (fun xz28 exz28 => ?_)
        have bxz28_0 : xz27.toInt % 8 = 3 → 0 ≤ xz28.toInt ∧ xz28.toInt ≤ 3 := by rw [exz28]; exact md_rd (hhz15 0).1 (by omega)
        have bxz28_1 : xz27.toInt % 8 = 4 → 0 ≤ xz28.toInt ∧ xz28.toInt ≤ 7 := by rw [exz28]; exact md_rd (hhz15 0).2.1 (by omega)
        have bxz28_2 : xz27.toInt % 8 = 5 → 0 ≤ xz28.toInt ∧ xz28.toInt ≤ 5 := by rw [exz28]; exact md_rd (hhz15 0).2.2.1 (by omega)
        have bxz28_3 : xz27.toInt % 8 = 6 → 0 ≤ xz28.toInt ∧ xz28.toInt ≤ 4 := by rw [exz28]; exact md_rd (hhz15 0).2.2.2.1 (by omega)
        have bxz28_4 : xz27.toInt % 8 = 7 → 0 ≤ xz28.toInt ∧ xz28.toInt ≤ 30 := by rw [exz28]; exact md_rd (hhz15 0).2.2.2.2 (by omega)
        refine va_iast hx hb hK hP hD hS 0 0 rfl rfl (vp_in_iff.mpr ⟨by omega, by omega⟩) dX12_copyRow_24 (fun H locs hP hD hS => ?_)
        obtain ⟨fz29, efz29, hP, hD⟩ : ∃ fz29 : Nat → Int32, fz29 = upd (hz15 0) xz25.toNatClampNeg xz28 ∧ va_P (dC, dI) vwCl (List.flatten [(wmHa qHa k (va_up hz15 0 fz29))] ++ List.flatten ([] : List va_W)) H ∧ va_D A (List.flatten [(wmHa qHa k (va_up hz15 0 fz29))] ++ List.flatten ([] : List va_W)) := ⟨_, rfl, hP, hD⟩
        have hfz29 : Pd_h fz29 := by rw [efz29]; exact ⟨md_upd (hhz15 0).1 (by show 0 ≤ xz25.toInt; omega) (by show xz25.toInt % 8 = 3 → 0 ≤ xz28.toInt ∧ xz28.toInt ≤ 3; omega), md_upd (hhz15 0).2.1 (by show 0 ≤ xz25.toInt; omega) (by show xz25.toInt % 8 = 4 → 0 ≤ xz28.toInt ∧ xz28.toInt ≤ 7; omega), md_upd (hhz15 0).2.2.1 (by show 0 ≤ xz25.toInt; omega) (by show xz25.toInt % 8 = 5 → 0 ≤ xz28.toInt ∧ xz28.toInt ≤ 5; omega), md_upd (hhz15 0).2.2.2.1 (by show 0 ≤ xz25.toInt; omega) (by show xz25.toInt % 8 = 6 → 0 ≤ xz28.toInt ∧ xz28.toInt ≤ 4; omega), md_upd (hhz15 0).2.2.2.2 (by show 0 ≤ xz25.toInt; omega) (by show xz25.toInt % 8 = 7 → 0 ≤ xz28.toInt ∧ xz28.toInt ≤ 30; omega)⟩
        have kfz29 : fz29 xz25.toNatClampNeg = xz28 := by rw [efz29]; exact pk_us
        obtain ⟨xz30, exz30⟩ : ∃ y : Int32, y = xz16 + Int32.ofInt (1) := ⟨_, rfl⟩
        have fxz30 : xz30.toInt = xz16.toInt + (1) := by rw [exz30]; exact fb_addI (y := Int32.ofInt (1)) (by show -2147483648 ≤ xz16.toInt + (1); omega) (by show xz16.toInt + (1) < 2147483648; omega)
        refine lv_iinc (v := xz30) (lv' := [(4, .int xz30), (0, .ref (qHa 0)), (1, .int 8), (2, .int p3), (3, .int p4)]) hx hb dX12_copyRow_25 hl (k := 4) rfl exz30.symm (by decide) rfl (fun ls hl => ?_)
        refine lv_goto (tgt := 3) hx hb dX12_copyRow_28 (by decide) ?_
        exact ih3 H locs ls (va_up hz15 0 fz29) xz30 (by show (2147483647 - xz30.toInt).toNat < n9_3; omega) (pa_up_h hhz15 hfz29) (by show 0 ≤ xz30.toInt; omega) hP hD hS (lv_sub hl [1, 2, 3, 4, 0] rfl)
  exact lp3_kz17 _ s.heap [] ls hHa (0 : Int32) (Nat.lt_succ_self _) hhHa (by show 0 ≤ (0 : Int); omega) hP hD hS (lv_sub hl [1, 2, 3, 4, 0] rfl)
def wk_c_copyRow_Br : List Cond := .code yX12_copyRow cX12_copyRow 5 none :: ([] ++ ([]))
theorem wkg_c_copyRow_Br : wk_c_copyRow_Br.all goodWord = true := by decide +kernel
set_option maxHeartbeats 4000000 in
set_option maxRecDepth 100000 in
theorem c_copyRow_Br (l : Launch) (dC : Nat → ClassId) (dI : Nat → Nat → Nat) (k : Nat → ClassId) (sz : Nat) (qBr : Nat → Nat) (aBr : Nat → Nat → Int32) (p3 : Int32) (p4 : Int32) (hp0 : 0 ≤ p3.toInt ∧ p3.toInt ≤ 4) (hp1 : 0 ≤ p4.toInt ∧ p4.toInt ≤ 4) : Met l yX12_copyRow wk_c_copyRow_Br ({ frames := 0, cells := 0, slots := 0, locals := 0 }) (va_Pc [.ref (qBr 0), .int 6, .int p3, .int p4] (fun U => U.heap.size = sz ∧ va_P (dC, dI) vwCl (List.flatten [(wmBr qBr k aBr)] ++ List.flatten ([] : List va_W)) U.heap ∧ va_K (dC, dI) vwCl (tK k) U ∧ va_D (fun _ => True) (List.flatten [(wmBr qBr k aBr)] ++ List.flatten ([] : List va_W)))) (va_Qv (fun _ : Unit => True) (fun (_ : Unit) (t : State) => ∃ (aBr' : Nat → Nat → Int32), va_P (dC, dI) vwCl (List.flatten [(wmBr qBr k aBr')] ++ List.flatten ([] : List va_W)) t.heap) (va_A (List.flatten [(wmBr qBr k aBr)] ++ List.flatten ([] : List va_W)) sz)) 0 0 (va_A (List.flatten [(wmBr qBr k aBr)] ++ List.flatten ([] : List va_W)) sz) := by
  refine Met.ofW (cc := cX12_copyRow) (maxL := 5) (ret := none) (by decide) rfl ?_
  intro p e s m args below meth c s₁ B hml hv
  obtain ⟨rfl, hsz, hP, hK, hD0⟩ := hv
  have hx := B.exec
  have hb := B.bytes
  have hr := B.returns
  have hts := atoms_spec (ws := wk_c_copyRow_Br) B.pre
  have hown : s.vm.findClass RX12 = some m.cls := findClass_of_methodNamed B.named
  have hlocks := B.notSynchronized
  subst hsz
  have hD := hD0.self (sz := s.heap.size)
  generalize hAe : va_A (List.flatten [(wmBr qBr k aBr)] ++ List.flatten ([] : List va_W)) s.heap.size = A at hD ⊢
  have hA : ∀ q : Nat, s.heap.size ≤ q → A q := fun q h => by rw [← hAe]; exact Or.inr h
  have hS : va_S A s.heap s.heap [] := va_S.rf
  have hP : va_P (dC, dI) vwCl (List.flatten [(wmBr qBr k aBr)] ++ List.flatten ([] : List va_W)) s.heap := hP
  have hl := lv_entry ([.ref (qBr 0), .int 6, .int p3, .int p4]) (n := 5) (Nat.le_of_ble_eq_true rfl)
  rw [lg_entry_eq]
  generalize (lg_sl ([.ref (qBr 0), .int 6, .int p3, .int p4]) ++ List.replicate (5 - (lg_sl ([.ref (qBr 0), .int 6, .int p3, .int p4])).length) Slot.unset).toArray = ls at hl ⊢
  have hl : lv_has ls 5 [(0, .ref (qBr 0)), (1, .int 6), (2, .int p3), (3, .int p4)] := hl
  refine w_gen (fun Q hQ => ?_)
  refine lv_iconst (v := 0) hx hb dX12_copyRow_0 (by decide) ?_
  refine lv_istore (lv' := [(4, .int 0), (0, .ref (qBr 0)), (1, .int 6), (2, .int p3), (3, .int p4)]) hx hb dX12_copyRow_1 hl (by decide) rfl (fun ls hl => ?_)
  have lp3_kz17 : ∀ (n9_3 : Nat) (H : Heap) (locs : List Loc) (ls : Array Slot) (az15 : Nat → Nat → Int32) (xz16 : Int32), (2147483647 - xz16.toInt).toNat < n9_3 → 0 ≤ xz16.toInt → va_P (dC, dI) vwCl (List.flatten [(wmBr qBr k az15)] ++ List.flatten ([] : List va_W)) H → va_D A (List.flatten [(wmBr qBr k az15)] ++ List.flatten ([] : List va_W)) → va_S A s.heap H locs → lv_has ls 5 [(0, .ref (qBr 0)), (1, .int 6), (2, .int p3), (3, .int p4), (4, .int xz16)] → W p l e (headSpec wk_c_copyRow_Br ({ frames := 0, cells := 0, slots := 0, locals := 0 })).room s m ([.ref (qBr 0), .int 6, .int p3, .int p4] : List Value).toArray below meth c H locs 0 0 Q (F0 m 3 ls []) := by
    intro n9_3
    induction n9_3 with
    | zero => intro H locs ls az15 xz16 hm; exact absurd hm (Nat.not_lt_zero _)
    | succ n9_3 ih3 =>
      intro H locs ls az15 xz16 hm3 jz18 hP hD hS hl
      refine lv_iload hx hb dX12_copyRow_3 (lv_at hl 4 rfl) ?_
      refine lv_iload_n hx hb dX12_copyRow_5 rfl (lv_at hl 1 rfl) ?_
      refine lv_icmp_ge (tgt := 31) hx hb dX12_copyRow_6 (by decide) (fun cz19 => ?_) (fun cz19 => ?_)
      · skip
        have bz20 := fb_rng xz16
        have zz21 : (6 : Int) ≤ xz16.toInt := zi_le.mp cz19
        rw [hQ]
        exact W.vret hx hb hr (fun t ht hW => ⟨⟨(), rfl, trivial, az15, by rw [ht]; exact hP⟩, hS.F ht⟩) hS.2.2 dX12_copyRow_31
      · skip
        have bz22 := fb_rng xz16
        have zz23 : ¬ (6 : Int) ≤ xz16.toInt := fun h9 => cz19 (zi_le.mpr h9)
        refine lv_aload_n hx hb dX12_copyRow_9 rfl (lv_at hl 0 rfl) ?_
        refine lv_iload_n hx hb dX12_copyRow_10 rfl (lv_at hl 1 rfl) ?_
        refine lv_iload_n hx hb dX12_copyRow_11 rfl (lv_at hl 3 rfl) ?_
        refine lv_imul hx hb dX12_copyRow_12 ?_
        refine lv_topi (fun xz24 exz24 => ?_)
        have fxz24 : xz24.toInt = (6 : Int) * p4.toInt := by rw [exz24]; exact fb_mulI (x := (6 : Int32)) (y := p4) (by show -2147483648 ≤ (6 : Int) * p4.toInt; omega) (by show (6 : Int) * p4.toInt < 2147483648; omega)
        refine lv_iload hx hb dX12_copyRow_13 (lv_at hl 4 rfl) ?_
        refine lv_iadd hx hb dX12_copyRow_15 ?_
        refine lv_topi (fun xz25 exz25 => ?_)
        have fxz25 : xz25.toInt = xz24.toInt + xz16.toInt := by rw [exz25]; exact fb_addI (x := xz24) (y := xz16) (by show -2147483648 ≤ xz24.toInt + xz16.toInt; omega) (by show xz24.toInt + xz16.toInt < 2147483648; omega)
        refine lv_aload_n hx hb dX12_copyRow_16 rfl (lv_at hl 0 rfl) ?_
        refine lv_iload_n hx hb dX12_copyRow_17 rfl (lv_at hl 1 rfl) ?_
        refine lv_iload_n hx hb dX12_copyRow_18 rfl (lv_at hl 2 rfl) ?_
        refine lv_imul hx hb dX12_copyRow_19 ?_
        refine lv_topi (fun xz26 exz26 => ?_)
        have fxz26 : xz26.toInt = (6 : Int) * p3.toInt := by rw [exz26]; exact fb_mulI (x := (6 : Int32)) (y := p3) (by show -2147483648 ≤ (6 : Int) * p3.toInt; omega) (by show (6 : Int) * p3.toInt < 2147483648; omega)
        refine lv_iload hx hb dX12_copyRow_20 (lv_at hl 4 rfl) ?_
        refine lv_iadd hx hb dX12_copyRow_22 ?_
        refine lv_topi (fun xz27 exz27 => ?_)
        have fxz27 : xz27.toInt = xz26.toInt + xz16.toInt := by rw [exz27]; exact fb_addI (x := xz26) (y := xz16) (by show -2147483648 ≤ xz26.toInt + xz16.toInt; omega) (by show xz26.toInt + xz16.toInt < 2147483648; omega)
        refine va_iald hx hb hK hP 0 0 rfl rfl (vp_in_iff.mpr ⟨by omega, by omega⟩) dX12_copyRow_23 ?_
        refine lv_topi (fun xz28 exz28 => ?_)
        refine va_iast hx hb hK hP hD hS 0 0 rfl rfl (vp_in_iff.mpr ⟨by omega, by omega⟩) dX12_copyRow_24 (fun H locs hP hD hS => ?_)
        obtain ⟨fz29, efz29, hP, hD⟩ : ∃ fz29 : Nat → Int32, fz29 = upd (az15 0) xz25.toNatClampNeg xz28 ∧ va_P (dC, dI) vwCl (List.flatten [(wmBr qBr k (va_up az15 0 fz29))] ++ List.flatten ([] : List va_W)) H ∧ va_D A (List.flatten [(wmBr qBr k (va_up az15 0 fz29))] ++ List.flatten ([] : List va_W)) := ⟨_, rfl, hP, hD⟩
        have kfz29 : fz29 xz25.toNatClampNeg = xz28 := by rw [efz29]; exact pk_us
        obtain ⟨xz30, exz30⟩ : ∃ y : Int32, y = xz16 + Int32.ofInt (1) := ⟨_, rfl⟩
        have fxz30 : xz30.toInt = xz16.toInt + (1) := by rw [exz30]; exact fb_addI (y := Int32.ofInt (1)) (by show -2147483648 ≤ xz16.toInt + (1); omega) (by show xz16.toInt + (1) < 2147483648; omega)
        refine lv_iinc (v := xz30) (lv' := [(4, .int xz30), (0, .ref (qBr 0)), (1, .int 6), (2, .int p3), (3, .int p4)]) hx hb dX12_copyRow_25 hl (k := 4) rfl exz30.symm (by decide) rfl (fun ls hl => ?_)
        refine lv_goto (tgt := 3) hx hb dX12_copyRow_28 (by decide) ?_
        exact ih3 H locs ls (va_up az15 0 fz29) xz30 (by show (2147483647 - xz30.toInt).toNat < n9_3; omega) (by show 0 ≤ xz30.toInt; omega) hP hD hS (lv_sub hl [1, 2, 3, 4, 0] rfl)
  exact lp3_kz17 _ s.heap [] ls aBr (0 : Int32) (Nat.lt_succ_self _) (by show 0 ≤ (0 : Int); omega) hP hD hS (lv_sub hl [1, 2, 3, 4, 0] rfl)
def wk_c_copyRow_Ca : List Cond := .code yX12_copyRow cX12_copyRow 5 none :: ([] ++ ([]))
theorem wkg_c_copyRow_Ca : wk_c_copyRow_Ca.all goodWord = true := by decide +kernel
set_option maxHeartbeats 4000000 in
set_option maxRecDepth 100000 in
theorem c_copyRow_Ca (l : Launch) (dC : Nat → ClassId) (dI : Nat → Nat → Nat) (k : Nat → ClassId) (sz : Nat) (qCa : Nat → Nat) (pCa : Nat → Nat → Int32) (p3 : Int32) (p4 : Int32) (hpCa : Pa_p pCa) (hp0 : 0 ≤ p3.toInt ∧ p3.toInt ≤ 4) (hp1 : 0 ≤ p4.toInt ∧ p4.toInt ≤ 4) : Met l yX12_copyRow wk_c_copyRow_Ca ({ frames := 0, cells := 0, slots := 0, locals := 0 }) (va_Pc [.ref (qCa 0), .int 14, .int p3, .int p4] (fun U => U.heap.size = sz ∧ va_P (dC, dI) vwCl (List.flatten [(wmCa qCa k pCa)] ++ List.flatten ([] : List va_W)) U.heap ∧ va_K (dC, dI) vwCl (tK k) U ∧ va_D (fun _ => True) (List.flatten [(wmCa qCa k pCa)] ++ List.flatten ([] : List va_W)))) (va_Qv (fun _ : Unit => True) (fun (_ : Unit) (t : State) => ∃ (pCa' : Nat → Nat → Int32), Pa_p pCa' ∧ va_P (dC, dI) vwCl (List.flatten [(wmCa qCa k pCa')] ++ List.flatten ([] : List va_W)) t.heap) (va_A (List.flatten [(wmCa qCa k pCa)] ++ List.flatten ([] : List va_W)) sz)) 0 0 (va_A (List.flatten [(wmCa qCa k pCa)] ++ List.flatten ([] : List va_W)) sz) := by
  refine Met.ofW (cc := cX12_copyRow) (maxL := 5) (ret := none) (by decide) rfl ?_
  intro p e s m args below meth c s₁ B hml hv
  obtain ⟨rfl, hsz, hP, hK, hD0⟩ := hv
  have hx := B.exec
  have hb := B.bytes
  have hr := B.returns
  have hts := atoms_spec (ws := wk_c_copyRow_Ca) B.pre
  have hown : s.vm.findClass RX12 = some m.cls := findClass_of_methodNamed B.named
  have hlocks := B.notSynchronized
  subst hsz
  have hD := hD0.self (sz := s.heap.size)
  generalize hAe : va_A (List.flatten [(wmCa qCa k pCa)] ++ List.flatten ([] : List va_W)) s.heap.size = A at hD ⊢
  have hA : ∀ q : Nat, s.heap.size ≤ q → A q := fun q h => by rw [← hAe]; exact Or.inr h
  have hS : va_S A s.heap s.heap [] := va_S.rf
  have hP : va_P (dC, dI) vwCl (List.flatten [(wmCa qCa k pCa)] ++ List.flatten ([] : List va_W)) s.heap := hP
  have hl := lv_entry ([.ref (qCa 0), .int 14, .int p3, .int p4]) (n := 5) (Nat.le_of_ble_eq_true rfl)
  rw [lg_entry_eq]
  generalize (lg_sl ([.ref (qCa 0), .int 14, .int p3, .int p4]) ++ List.replicate (5 - (lg_sl ([.ref (qCa 0), .int 14, .int p3, .int p4])).length) Slot.unset).toArray = ls at hl ⊢
  have hl : lv_has ls 5 [(0, .ref (qCa 0)), (1, .int 14), (2, .int p3), (3, .int p4)] := hl
  refine w_gen (fun Q hQ => ?_)
  refine lv_iconst (v := 0) hx hb dX12_copyRow_0 (by decide) ?_
  refine lv_istore (lv' := [(4, .int 0), (0, .ref (qCa 0)), (1, .int 14), (2, .int p3), (3, .int p4)]) hx hb dX12_copyRow_1 hl (by decide) rfl (fun ls hl => ?_)
  have lp3_kz17 : ∀ (n9_3 : Nat) (H : Heap) (locs : List Loc) (ls : Array Slot) (pz15 : Nat → Nat → Int32) (xz16 : Int32), (2147483647 - xz16.toInt).toNat < n9_3 → Pa_p pz15 → 0 ≤ xz16.toInt → va_P (dC, dI) vwCl (List.flatten [(wmCa qCa k pz15)] ++ List.flatten ([] : List va_W)) H → va_D A (List.flatten [(wmCa qCa k pz15)] ++ List.flatten ([] : List va_W)) → va_S A s.heap H locs → lv_has ls 5 [(0, .ref (qCa 0)), (1, .int 14), (2, .int p3), (3, .int p4), (4, .int xz16)] → W p l e (headSpec wk_c_copyRow_Ca ({ frames := 0, cells := 0, slots := 0, locals := 0 })).room s m ([.ref (qCa 0), .int 14, .int p3, .int p4] : List Value).toArray below meth c H locs 0 0 Q (F0 m 3 ls []) := by
    intro n9_3
    induction n9_3 with
    | zero => intro H locs ls pz15 xz16 hm; exact absurd hm (Nat.not_lt_zero _)
    | succ n9_3 ih3 =>
      intro H locs ls pz15 xz16 hm3 hpz15 jz18 hP hD hS hl
      refine lv_iload hx hb dX12_copyRow_3 (lv_at hl 4 rfl) ?_
      refine lv_iload_n hx hb dX12_copyRow_5 rfl (lv_at hl 1 rfl) ?_
      refine lv_icmp_ge (tgt := 31) hx hb dX12_copyRow_6 (by decide) (fun cz19 => ?_) (fun cz19 => ?_)
      · skip
        have bz20 := fb_rng xz16
        have zz21 : (14 : Int) ≤ xz16.toInt := zi_le.mp cz19
        rw [hQ]
        exact W.vret hx hb hr (fun t ht hW => ⟨⟨(), rfl, trivial, pz15, hpz15, by rw [ht]; exact hP⟩, hS.F ht⟩) hS.2.2 dX12_copyRow_31
      · skip
        have bz22 := fb_rng xz16
        have zz23 : ¬ (14 : Int) ≤ xz16.toInt := fun h9 => cz19 (zi_le.mpr h9)
        refine lv_aload_n hx hb dX12_copyRow_9 rfl (lv_at hl 0 rfl) ?_
        refine lv_iload_n hx hb dX12_copyRow_10 rfl (lv_at hl 1 rfl) ?_
        refine lv_iload_n hx hb dX12_copyRow_11 rfl (lv_at hl 3 rfl) ?_
        refine lv_imul hx hb dX12_copyRow_12 ?_
        refine lv_topi (fun xz24 exz24 => ?_)
        have fxz24 : xz24.toInt = (14 : Int) * p4.toInt := by rw [exz24]; exact fb_mulI (x := (14 : Int32)) (y := p4) (by show -2147483648 ≤ (14 : Int) * p4.toInt; omega) (by show (14 : Int) * p4.toInt < 2147483648; omega)
        refine lv_iload hx hb dX12_copyRow_13 (lv_at hl 4 rfl) ?_
        refine lv_iadd hx hb dX12_copyRow_15 ?_
        refine lv_topi (fun xz25 exz25 => ?_)
        have fxz25 : xz25.toInt = xz24.toInt + xz16.toInt := by rw [exz25]; exact fb_addI (x := xz24) (y := xz16) (by show -2147483648 ≤ xz24.toInt + xz16.toInt; omega) (by show xz24.toInt + xz16.toInt < 2147483648; omega)
        refine lv_aload_n hx hb dX12_copyRow_16 rfl (lv_at hl 0 rfl) ?_
        refine lv_iload_n hx hb dX12_copyRow_17 rfl (lv_at hl 1 rfl) ?_
        refine lv_iload_n hx hb dX12_copyRow_18 rfl (lv_at hl 2 rfl) ?_
        refine lv_imul hx hb dX12_copyRow_19 ?_
        refine lv_topi (fun xz26 exz26 => ?_)
        have fxz26 : xz26.toInt = (14 : Int) * p3.toInt := by rw [exz26]; exact fb_mulI (x := (14 : Int32)) (y := p3) (by show -2147483648 ≤ (14 : Int) * p3.toInt; omega) (by show (14 : Int) * p3.toInt < 2147483648; omega)
        refine lv_iload hx hb dX12_copyRow_20 (lv_at hl 4 rfl) ?_
        refine lv_iadd hx hb dX12_copyRow_22 ?_
        refine lv_topi (fun xz27 exz27 => ?_)
        have fxz27 : xz27.toInt = xz26.toInt + xz16.toInt := by rw [exz27]; exact fb_addI (x := xz26) (y := xz16) (by show -2147483648 ≤ xz26.toInt + xz16.toInt; omega) (by show xz26.toInt + xz16.toInt < 2147483648; omega)
        refine va_iald hx hb hK hP 0 0 rfl rfl (vp_in_iff.mpr ⟨by omega, by omega⟩) dX12_copyRow_23 ?_
        refine lv_topi (fun xz28 exz28 => ?_)
        have bxz28_0 : xz27.toInt % 2 = 1 → 0 ≤ xz28.toInt ∧ xz28.toInt ≤ 2 := by rw [exz28]; exact md_rd (hpz15 0) (by omega)
        refine va_iast hx hb hK hP hD hS 0 0 rfl rfl (vp_in_iff.mpr ⟨by omega, by omega⟩) dX12_copyRow_24 (fun H locs hP hD hS => ?_)
        obtain ⟨fz29, efz29, hP, hD⟩ : ∃ fz29 : Nat → Int32, fz29 = upd (pz15 0) xz25.toNatClampNeg xz28 ∧ va_P (dC, dI) vwCl (List.flatten [(wmCa qCa k (va_up pz15 0 fz29))] ++ List.flatten ([] : List va_W)) H ∧ va_D A (List.flatten [(wmCa qCa k (va_up pz15 0 fz29))] ++ List.flatten ([] : List va_W)) := ⟨_, rfl, hP, hD⟩
        have hfz29 : Pd_p fz29 := by rw [efz29]; exact md_upd (hpz15 0) (by show 0 ≤ xz25.toInt; omega) (by show xz25.toInt % 2 = 1 → 0 ≤ xz28.toInt ∧ xz28.toInt ≤ 2; omega)
        have kfz29 : fz29 xz25.toNatClampNeg = xz28 := by rw [efz29]; exact pk_us
        obtain ⟨xz30, exz30⟩ : ∃ y : Int32, y = xz16 + Int32.ofInt (1) := ⟨_, rfl⟩
        have fxz30 : xz30.toInt = xz16.toInt + (1) := by rw [exz30]; exact fb_addI (y := Int32.ofInt (1)) (by show -2147483648 ≤ xz16.toInt + (1); omega) (by show xz16.toInt + (1) < 2147483648; omega)
        refine lv_iinc (v := xz30) (lv' := [(4, .int xz30), (0, .ref (qCa 0)), (1, .int 14), (2, .int p3), (3, .int p4)]) hx hb dX12_copyRow_25 hl (k := 4) rfl exz30.symm (by decide) rfl (fun ls hl => ?_)
        refine lv_goto (tgt := 3) hx hb dX12_copyRow_28 (by decide) ?_
        exact ih3 H locs ls (va_up pz15 0 fz29) xz30 (by show (2147483647 - xz30.toInt).toNat < n9_3; omega) (pa_up_p hpz15 hfz29) (by show 0 ≤ xz30.toInt; omega) hP hD hS (lv_sub hl [1, 2, 3, 4, 0] rfl)
  exact lp3_kz17 _ s.heap [] ls pCa (0 : Int32) (Nat.lt_succ_self _) hpCa (by show 0 ≤ (0 : Int); omega) hP hD hS (lv_sub hl [1, 2, 3, 4, 0] rfl)
def wk_c_copyRow_Wa : List Cond := .code yX12_copyRow cX12_copyRow 5 none :: ([] ++ ([]))
theorem wkg_c_copyRow_Wa : wk_c_copyRow_Wa.all goodWord = true := by decide +kernel
set_option maxHeartbeats 4000000 in
set_option maxRecDepth 100000 in
theorem c_copyRow_Wa (l : Launch) (dC : Nat → ClassId) (dI : Nat → Nat → Nat) (k : Nat → ClassId) (sz : Nat) (qWa : Nat → Nat) (jWa : Nat → Nat → Int32) (p3 : Int32) (p4 : Int32) (hjWa : Pa_j jWa) (hp0 : 0 ≤ p3.toInt ∧ p3.toInt ≤ 4) (hp1 : 0 ≤ p4.toInt ∧ p4.toInt ≤ 4) : Met l yX12_copyRow wk_c_copyRow_Wa ({ frames := 0, cells := 0, slots := 0, locals := 0 }) (va_Pc [.ref (qWa 0), .int 15, .int p3, .int p4] (fun U => U.heap.size = sz ∧ va_P (dC, dI) vwCl (List.flatten [(wmWa qWa k jWa)] ++ List.flatten ([] : List va_W)) U.heap ∧ va_K (dC, dI) vwCl (tK k) U ∧ va_D (fun _ => True) (List.flatten [(wmWa qWa k jWa)] ++ List.flatten ([] : List va_W)))) (va_Qv (fun _ : Unit => True) (fun (_ : Unit) (t : State) => ∃ (jWa' : Nat → Nat → Int32), Pa_j jWa' ∧ va_P (dC, dI) vwCl (List.flatten [(wmWa qWa k jWa')] ++ List.flatten ([] : List va_W)) t.heap) (va_A (List.flatten [(wmWa qWa k jWa)] ++ List.flatten ([] : List va_W)) sz)) 0 0 (va_A (List.flatten [(wmWa qWa k jWa)] ++ List.flatten ([] : List va_W)) sz) := by
  refine Met.ofW (cc := cX12_copyRow) (maxL := 5) (ret := none) (by decide) rfl ?_
  intro p e s m args below meth c s₁ B hml hv
  obtain ⟨rfl, hsz, hP, hK, hD0⟩ := hv
  have hx := B.exec
  have hb := B.bytes
  have hr := B.returns
  have hts := atoms_spec (ws := wk_c_copyRow_Wa) B.pre
  have hown : s.vm.findClass RX12 = some m.cls := findClass_of_methodNamed B.named
  have hlocks := B.notSynchronized
  subst hsz
  have hD := hD0.self (sz := s.heap.size)
  generalize hAe : va_A (List.flatten [(wmWa qWa k jWa)] ++ List.flatten ([] : List va_W)) s.heap.size = A at hD ⊢
  have hA : ∀ q : Nat, s.heap.size ≤ q → A q := fun q h => by rw [← hAe]; exact Or.inr h
  have hS : va_S A s.heap s.heap [] := va_S.rf
  have hP : va_P (dC, dI) vwCl (List.flatten [(wmWa qWa k jWa)] ++ List.flatten ([] : List va_W)) s.heap := hP
  have hl := lv_entry ([.ref (qWa 0), .int 15, .int p3, .int p4]) (n := 5) (Nat.le_of_ble_eq_true rfl)
  rw [lg_entry_eq]
  generalize (lg_sl ([.ref (qWa 0), .int 15, .int p3, .int p4]) ++ List.replicate (5 - (lg_sl ([.ref (qWa 0), .int 15, .int p3, .int p4])).length) Slot.unset).toArray = ls at hl ⊢
  have hl : lv_has ls 5 [(0, .ref (qWa 0)), (1, .int 15), (2, .int p3), (3, .int p4)] := hl
  refine w_gen (fun Q hQ => ?_)
  refine lv_iconst (v := 0) hx hb dX12_copyRow_0 (by decide) ?_
  refine lv_istore (lv' := [(4, .int 0), (0, .ref (qWa 0)), (1, .int 15), (2, .int p3), (3, .int p4)]) hx hb dX12_copyRow_1 hl (by decide) rfl (fun ls hl => ?_)
  have lp3_kz17 : ∀ (n9_3 : Nat) (H : Heap) (locs : List Loc) (ls : Array Slot) (jz15 : Nat → Nat → Int32) (xz16 : Int32), (2147483647 - xz16.toInt).toNat < n9_3 → Pa_j jz15 → 0 ≤ xz16.toInt → va_P (dC, dI) vwCl (List.flatten [(wmWa qWa k jz15)] ++ List.flatten ([] : List va_W)) H → va_D A (List.flatten [(wmWa qWa k jz15)] ++ List.flatten ([] : List va_W)) → va_S A s.heap H locs → lv_has ls 5 [(0, .ref (qWa 0)), (1, .int 15), (2, .int p3), (3, .int p4), (4, .int xz16)] → W p l e (headSpec wk_c_copyRow_Wa ({ frames := 0, cells := 0, slots := 0, locals := 0 })).room s m ([.ref (qWa 0), .int 15, .int p3, .int p4] : List Value).toArray below meth c H locs 0 0 Q (F0 m 3 ls []) := by
    intro n9_3
    induction n9_3 with
    | zero => intro H locs ls jz15 xz16 hm; exact absurd hm (Nat.not_lt_zero _)
    | succ n9_3 ih3 =>
      intro H locs ls jz15 xz16 hm3 hjz15 jz18 hP hD hS hl
      refine lv_iload hx hb dX12_copyRow_3 (lv_at hl 4 rfl) ?_
      refine lv_iload_n hx hb dX12_copyRow_5 rfl (lv_at hl 1 rfl) ?_
      refine lv_icmp_ge (tgt := 31) hx hb dX12_copyRow_6 (by decide) (fun cz19 => ?_) (fun cz19 => ?_)
      · skip
        have bz20 := fb_rng xz16
        have zz21 : (15 : Int) ≤ xz16.toInt := zi_le.mp cz19
        rw [hQ]
        exact W.vret hx hb hr (fun t ht hW => ⟨⟨(), rfl, trivial, jz15, hjz15, by rw [ht]; exact hP⟩, hS.F ht⟩) hS.2.2 dX12_copyRow_31
      · skip
        have bz22 := fb_rng xz16
        have zz23 : ¬ (15 : Int) ≤ xz16.toInt := fun h9 => cz19 (zi_le.mpr h9)
        refine lv_aload_n hx hb dX12_copyRow_9 rfl (lv_at hl 0 rfl) ?_
        refine lv_iload_n hx hb dX12_copyRow_10 rfl (lv_at hl 1 rfl) ?_
        refine lv_iload_n hx hb dX12_copyRow_11 rfl (lv_at hl 3 rfl) ?_
        refine lv_imul hx hb dX12_copyRow_12 ?_
        refine lv_topi (fun xz24 exz24 => ?_)
        have fxz24 : xz24.toInt = (15 : Int) * p4.toInt := by rw [exz24]; exact fb_mulI (x := (15 : Int32)) (y := p4) (by show -2147483648 ≤ (15 : Int) * p4.toInt; omega) (by show (15 : Int) * p4.toInt < 2147483648; omega)
        refine lv_iload hx hb dX12_copyRow_13 (lv_at hl 4 rfl) ?_
        refine lv_iadd hx hb dX12_copyRow_15 ?_
        refine lv_topi (fun xz25 exz25 => ?_)
        have fxz25 : xz25.toInt = xz24.toInt + xz16.toInt := by rw [exz25]; exact fb_addI (x := xz24) (y := xz16) (by show -2147483648 ≤ xz24.toInt + xz16.toInt; omega) (by show xz24.toInt + xz16.toInt < 2147483648; omega)
        refine lv_aload_n hx hb dX12_copyRow_16 rfl (lv_at hl 0 rfl) ?_
        refine lv_iload_n hx hb dX12_copyRow_17 rfl (lv_at hl 1 rfl) ?_
        refine lv_iload_n hx hb dX12_copyRow_18 rfl (lv_at hl 2 rfl) ?_
        refine lv_imul hx hb dX12_copyRow_19 ?_
        refine lv_topi (fun xz26 exz26 => ?_)
        have fxz26 : xz26.toInt = (15 : Int) * p3.toInt := by rw [exz26]; exact fb_mulI (x := (15 : Int32)) (y := p3) (by show -2147483648 ≤ (15 : Int) * p3.toInt; omega) (by show (15 : Int) * p3.toInt < 2147483648; omega)
        refine lv_iload hx hb dX12_copyRow_20 (lv_at hl 4 rfl) ?_
        refine lv_iadd hx hb dX12_copyRow_22 ?_
        refine lv_topi (fun xz27 exz27 => ?_)
        have fxz27 : xz27.toInt = xz26.toInt + xz16.toInt := by rw [exz27]; exact fb_addI (x := xz26) (y := xz16) (by show -2147483648 ≤ xz26.toInt + xz16.toInt; omega) (by show xz26.toInt + xz16.toInt < 2147483648; omega)
        refine va_iald hx hb hK hP 0 0 rfl rfl (vp_in_iff.mpr ⟨by omega, by omega⟩) dX12_copyRow_23 ?_
        refine lv_topi (fun xz28 exz28 => ?_)
        have bxz28_0 : xz27.toInt % 3 = 2 → (-1) ≤ xz28.toInt ∧ xz28.toInt ≤ 2 := by rw [exz28]; exact md_rd (hjz15 0) (by omega)
        refine va_iast hx hb hK hP hD hS 0 0 rfl rfl (vp_in_iff.mpr ⟨by omega, by omega⟩) dX12_copyRow_24 (fun H locs hP hD hS => ?_)
        obtain ⟨fz29, efz29, hP, hD⟩ : ∃ fz29 : Nat → Int32, fz29 = upd (jz15 0) xz25.toNatClampNeg xz28 ∧ va_P (dC, dI) vwCl (List.flatten [(wmWa qWa k (va_up jz15 0 fz29))] ++ List.flatten ([] : List va_W)) H ∧ va_D A (List.flatten [(wmWa qWa k (va_up jz15 0 fz29))] ++ List.flatten ([] : List va_W)) := ⟨_, rfl, hP, hD⟩
        have hfz29 : Pd_j fz29 := by rw [efz29]; exact md_upd (hjz15 0) (by show 0 ≤ xz25.toInt; omega) (by show xz25.toInt % 3 = 2 → (-1) ≤ xz28.toInt ∧ xz28.toInt ≤ 2; omega)
        have kfz29 : fz29 xz25.toNatClampNeg = xz28 := by rw [efz29]; exact pk_us
        obtain ⟨xz30, exz30⟩ : ∃ y : Int32, y = xz16 + Int32.ofInt (1) := ⟨_, rfl⟩
        have fxz30 : xz30.toInt = xz16.toInt + (1) := by rw [exz30]; exact fb_addI (y := Int32.ofInt (1)) (by show -2147483648 ≤ xz16.toInt + (1); omega) (by show xz16.toInt + (1) < 2147483648; omega)
        refine lv_iinc (v := xz30) (lv' := [(4, .int xz30), (0, .ref (qWa 0)), (1, .int 15), (2, .int p3), (3, .int p4)]) hx hb dX12_copyRow_25 hl (k := 4) rfl exz30.symm (by decide) rfl (fun ls hl => ?_)
        refine lv_goto (tgt := 3) hx hb dX12_copyRow_28 (by decide) ?_
        exact ih3 H locs ls (va_up jz15 0 fz29) xz30 (by show (2147483647 - xz30.toInt).toNat < n9_3; omega) (pa_up_j hjz15 hfz29) (by show 0 ≤ xz30.toInt; omega) hP hD hS (lv_sub hl [1, 2, 3, 4, 0] rfl)
  exact lp3_kz17 _ s.heap [] ls jWa (0 : Int32) (Nat.lt_succ_self _) hjWa (by show 0 ≤ (0 : Int); omega) hP hD hS (lv_sub hl [1, 2, 3, 4, 0] rfl)
def wk_c_copyRow_Fr : List Cond := .code yX12_copyRow cX12_copyRow 5 none :: ([] ++ ([]))
theorem wkg_c_copyRow_Fr : wk_c_copyRow_Fr.all goodWord = true := by decide +kernel
set_option maxHeartbeats 4000000 in
set_option maxRecDepth 100000 in
theorem c_copyRow_Fr (l : Launch) (dC : Nat → ClassId) (dI : Nat → Nat → Nat) (k : Nat → ClassId) (sz : Nat) (qFr : Nat → Nat) (aFr : Nat → Nat → Int32) (p3 : Int32) (p4 : Int32) (hp0 : 0 ≤ p3.toInt ∧ p3.toInt ≤ 4) (hp1 : 0 ≤ p4.toInt ∧ p4.toInt ≤ 4) : Met l yX12_copyRow wk_c_copyRow_Fr ({ frames := 0, cells := 0, slots := 0, locals := 0 }) (va_Pc [.ref (qFr 0), .int 4, .int p3, .int p4] (fun U => U.heap.size = sz ∧ va_P (dC, dI) vwCl (List.flatten [(wmFr qFr k aFr)] ++ List.flatten ([] : List va_W)) U.heap ∧ va_K (dC, dI) vwCl (tK k) U ∧ va_D (fun _ => True) (List.flatten [(wmFr qFr k aFr)] ++ List.flatten ([] : List va_W)))) (va_Qv (fun _ : Unit => True) (fun (_ : Unit) (t : State) => ∃ (aFr' : Nat → Nat → Int32), va_P (dC, dI) vwCl (List.flatten [(wmFr qFr k aFr')] ++ List.flatten ([] : List va_W)) t.heap) (va_A (List.flatten [(wmFr qFr k aFr)] ++ List.flatten ([] : List va_W)) sz)) 0 0 (va_A (List.flatten [(wmFr qFr k aFr)] ++ List.flatten ([] : List va_W)) sz) := by
  refine Met.ofW (cc := cX12_copyRow) (maxL := 5) (ret := none) (by decide) rfl ?_
  intro p e s m args below meth c s₁ B hml hv
  obtain ⟨rfl, hsz, hP, hK, hD0⟩ := hv
  have hx := B.exec
  have hb := B.bytes
  have hr := B.returns
  have hts := atoms_spec (ws := wk_c_copyRow_Fr) B.pre
  have hown : s.vm.findClass RX12 = some m.cls := findClass_of_methodNamed B.named
  have hlocks := B.notSynchronized
  subst hsz
  have hD := hD0.self (sz := s.heap.size)
  generalize hAe : va_A (List.flatten [(wmFr qFr k aFr)] ++ List.flatten ([] : List va_W)) s.heap.size = A at hD ⊢
  have hA : ∀ q : Nat, s.heap.size ≤ q → A q := fun q h => by rw [← hAe]; exact Or.inr h
  have hS : va_S A s.heap s.heap [] := va_S.rf
  have hP : va_P (dC, dI) vwCl (List.flatten [(wmFr qFr k aFr)] ++ List.flatten ([] : List va_W)) s.heap := hP
  have hl := lv_entry ([.ref (qFr 0), .int 4, .int p3, .int p4]) (n := 5) (Nat.le_of_ble_eq_true rfl)
  rw [lg_entry_eq]
  generalize (lg_sl ([.ref (qFr 0), .int 4, .int p3, .int p4]) ++ List.replicate (5 - (lg_sl ([.ref (qFr 0), .int 4, .int p3, .int p4])).length) Slot.unset).toArray = ls at hl ⊢
  have hl : lv_has ls 5 [(0, .ref (qFr 0)), (1, .int 4), (2, .int p3), (3, .int p4)] := hl
  refine w_gen (fun Q hQ => ?_)
  refine lv_iconst (v := 0) hx hb dX12_copyRow_0 (by decide) ?_
  refine lv_istore (lv' := [(4, .int 0), (0, .ref (qFr 0)), (1, .int 4), (2, .int p3), (3, .int p4)]) hx hb dX12_copyRow_1 hl (by decide) rfl (fun ls hl => ?_)
  have lp3_kz17 : ∀ (n9_3 : Nat) (H : Heap) (locs : List Loc) (ls : Array Slot) (az15 : Nat → Nat → Int32) (xz16 : Int32), (2147483647 - xz16.toInt).toNat < n9_3 → 0 ≤ xz16.toInt → va_P (dC, dI) vwCl (List.flatten [(wmFr qFr k az15)] ++ List.flatten ([] : List va_W)) H → va_D A (List.flatten [(wmFr qFr k az15)] ++ List.flatten ([] : List va_W)) → va_S A s.heap H locs → lv_has ls 5 [(0, .ref (qFr 0)), (1, .int 4), (2, .int p3), (3, .int p4), (4, .int xz16)] → W p l e (headSpec wk_c_copyRow_Fr ({ frames := 0, cells := 0, slots := 0, locals := 0 })).room s m ([.ref (qFr 0), .int 4, .int p3, .int p4] : List Value).toArray below meth c H locs 0 0 Q (F0 m 3 ls []) := by
    intro n9_3
    induction n9_3 with
    | zero => intro H locs ls az15 xz16 hm; exact absurd hm (Nat.not_lt_zero _)
    | succ n9_3 ih3 =>
      intro H locs ls az15 xz16 hm3 jz18 hP hD hS hl
      refine lv_iload hx hb dX12_copyRow_3 (lv_at hl 4 rfl) ?_
      refine lv_iload_n hx hb dX12_copyRow_5 rfl (lv_at hl 1 rfl) ?_
      refine lv_icmp_ge (tgt := 31) hx hb dX12_copyRow_6 (by decide) (fun cz19 => ?_) (fun cz19 => ?_)
      · skip
        have bz20 := fb_rng xz16
        have zz21 : (4 : Int) ≤ xz16.toInt := zi_le.mp cz19
        rw [hQ]
        exact W.vret hx hb hr (fun t ht hW => ⟨⟨(), rfl, trivial, az15, by rw [ht]; exact hP⟩, hS.F ht⟩) hS.2.2 dX12_copyRow_31
      · skip
        have bz22 := fb_rng xz16
        have zz23 : ¬ (4 : Int) ≤ xz16.toInt := fun h9 => cz19 (zi_le.mpr h9)
        refine lv_aload_n hx hb dX12_copyRow_9 rfl (lv_at hl 0 rfl) ?_
        refine lv_iload_n hx hb dX12_copyRow_10 rfl (lv_at hl 1 rfl) ?_
        refine lv_iload_n hx hb dX12_copyRow_11 rfl (lv_at hl 3 rfl) ?_
        refine lv_imul hx hb dX12_copyRow_12 ?_
        refine lv_topi (fun xz24 exz24 => ?_)
        have fxz24 : xz24.toInt = (4 : Int) * p4.toInt := by rw [exz24]; exact fb_mulI (x := (4 : Int32)) (y := p4) (by show -2147483648 ≤ (4 : Int) * p4.toInt; omega) (by show (4 : Int) * p4.toInt < 2147483648; omega)
        refine lv_iload hx hb dX12_copyRow_13 (lv_at hl 4 rfl) ?_
        refine lv_iadd hx hb dX12_copyRow_15 ?_
        refine lv_topi (fun xz25 exz25 => ?_)
        have fxz25 : xz25.toInt = xz24.toInt + xz16.toInt := by rw [exz25]; exact fb_addI (x := xz24) (y := xz16) (by show -2147483648 ≤ xz24.toInt + xz16.toInt; omega) (by show xz24.toInt + xz16.toInt < 2147483648; omega)
        refine lv_aload_n hx hb dX12_copyRow_16 rfl (lv_at hl 0 rfl) ?_
        refine lv_iload_n hx hb dX12_copyRow_17 rfl (lv_at hl 1 rfl) ?_
        refine lv_iload_n hx hb dX12_copyRow_18 rfl (lv_at hl 2 rfl) ?_
        refine lv_imul hx hb dX12_copyRow_19 ?_
        refine lv_topi (fun xz26 exz26 => ?_)
        have fxz26 : xz26.toInt = (4 : Int) * p3.toInt := by rw [exz26]; exact fb_mulI (x := (4 : Int32)) (y := p3) (by show -2147483648 ≤ (4 : Int) * p3.toInt; omega) (by show (4 : Int) * p3.toInt < 2147483648; omega)
        refine lv_iload hx hb dX12_copyRow_20 (lv_at hl 4 rfl) ?_
        refine lv_iadd hx hb dX12_copyRow_22 ?_
        refine lv_topi (fun xz27 exz27 => ?_)
        have fxz27 : xz27.toInt = xz26.toInt + xz16.toInt := by rw [exz27]; exact fb_addI (x := xz26) (y := xz16) (by show -2147483648 ≤ xz26.toInt + xz16.toInt; omega) (by show xz26.toInt + xz16.toInt < 2147483648; omega)
        refine va_iald hx hb hK hP 0 0 rfl rfl (vp_in_iff.mpr ⟨by omega, by omega⟩) dX12_copyRow_23 ?_
        refine lv_topi (fun xz28 exz28 => ?_)
        refine va_iast hx hb hK hP hD hS 0 0 rfl rfl (vp_in_iff.mpr ⟨by omega, by omega⟩) dX12_copyRow_24 (fun H locs hP hD hS => ?_)
        obtain ⟨fz29, efz29, hP, hD⟩ : ∃ fz29 : Nat → Int32, fz29 = upd (az15 0) xz25.toNatClampNeg xz28 ∧ va_P (dC, dI) vwCl (List.flatten [(wmFr qFr k (va_up az15 0 fz29))] ++ List.flatten ([] : List va_W)) H ∧ va_D A (List.flatten [(wmFr qFr k (va_up az15 0 fz29))] ++ List.flatten ([] : List va_W)) := ⟨_, rfl, hP, hD⟩
        have kfz29 : fz29 xz25.toNatClampNeg = xz28 := by rw [efz29]; exact pk_us
        obtain ⟨xz30, exz30⟩ : ∃ y : Int32, y = xz16 + Int32.ofInt (1) := ⟨_, rfl⟩
        have fxz30 : xz30.toInt = xz16.toInt + (1) := by rw [exz30]; exact fb_addI (y := Int32.ofInt (1)) (by show -2147483648 ≤ xz16.toInt + (1); omega) (by show xz16.toInt + (1) < 2147483648; omega)
        refine lv_iinc (v := xz30) (lv' := [(4, .int xz30), (0, .ref (qFr 0)), (1, .int 4), (2, .int p3), (3, .int p4)]) hx hb dX12_copyRow_25 hl (k := 4) rfl exz30.symm (by decide) rfl (fun ls hl => ?_)
        refine lv_goto (tgt := 3) hx hb dX12_copyRow_28 (by decide) ?_
        exact ih3 H locs ls (va_up az15 0 fz29) xz30 (by show (2147483647 - xz30.toInt).toNat < n9_3; omega) (by show 0 ≤ xz30.toInt; omega) hP hD hS (lv_sub hl [1, 2, 3, 4, 0] rfl)
  exact lp3_kz17 _ s.heap [] ls aFr (0 : Int32) (Nat.lt_succ_self _) (by show 0 ≤ (0 : Int); omega) hP hD hS (lv_sub hl [1, 2, 3, 4, 0] rfl)
def wk_c_copyRow_Ac : List Cond := .code yX12_copyRow cX12_copyRow 5 none :: ([] ++ ([]))
theorem wkg_c_copyRow_Ac : wk_c_copyRow_Ac.all goodWord = true := by decide +kernel
set_option maxHeartbeats 4000000 in
set_option maxRecDepth 100000 in
theorem c_copyRow_Ac (l : Launch) (dC : Nat → ClassId) (dI : Nat → Nat → Nat) (k : Nat → ClassId) (sz : Nat) (qAc : Nat → Nat) (iAc : Nat → Nat → Int32) (p3 : Int32) (p4 : Int32) (hiAc : Pa_i iAc) (hp0 : 0 ≤ p3.toInt ∧ p3.toInt ≤ 4) (hp1 : 0 ≤ p4.toInt ∧ p4.toInt ≤ 4) : Met l yX12_copyRow wk_c_copyRow_Ac ({ frames := 0, cells := 0, slots := 0, locals := 0 }) (va_Pc [.ref (qAc 0), .int 90, .int p3, .int p4] (fun U => U.heap.size = sz ∧ va_P (dC, dI) vwCl (List.flatten [(wmAc qAc k iAc)] ++ List.flatten ([] : List va_W)) U.heap ∧ va_K (dC, dI) vwCl (tK k) U ∧ va_D (fun _ => True) (List.flatten [(wmAc qAc k iAc)] ++ List.flatten ([] : List va_W)))) (va_Qv (fun _ : Unit => True) (fun (_ : Unit) (t : State) => ∃ (iAc' : Nat → Nat → Int32), Pa_i iAc' ∧ va_P (dC, dI) vwCl (List.flatten [(wmAc qAc k iAc')] ++ List.flatten ([] : List va_W)) t.heap) (va_A (List.flatten [(wmAc qAc k iAc)] ++ List.flatten ([] : List va_W)) sz)) 0 0 (va_A (List.flatten [(wmAc qAc k iAc)] ++ List.flatten ([] : List va_W)) sz) := by
  refine Met.ofW (cc := cX12_copyRow) (maxL := 5) (ret := none) (by decide) rfl ?_
  intro p e s m args below meth c s₁ B hml hv
  obtain ⟨rfl, hsz, hP, hK, hD0⟩ := hv
  have hx := B.exec
  have hb := B.bytes
  have hr := B.returns
  have hts := atoms_spec (ws := wk_c_copyRow_Ac) B.pre
  have hown : s.vm.findClass RX12 = some m.cls := findClass_of_methodNamed B.named
  have hlocks := B.notSynchronized
  subst hsz
  have hD := hD0.self (sz := s.heap.size)
  generalize hAe : va_A (List.flatten [(wmAc qAc k iAc)] ++ List.flatten ([] : List va_W)) s.heap.size = A at hD ⊢
  have hA : ∀ q : Nat, s.heap.size ≤ q → A q := fun q h => by rw [← hAe]; exact Or.inr h
  have hS : va_S A s.heap s.heap [] := va_S.rf
  have hP : va_P (dC, dI) vwCl (List.flatten [(wmAc qAc k iAc)] ++ List.flatten ([] : List va_W)) s.heap := hP
  have hl := lv_entry ([.ref (qAc 0), .int 90, .int p3, .int p4]) (n := 5) (Nat.le_of_ble_eq_true rfl)
  rw [lg_entry_eq]
  generalize (lg_sl ([.ref (qAc 0), .int 90, .int p3, .int p4]) ++ List.replicate (5 - (lg_sl ([.ref (qAc 0), .int 90, .int p3, .int p4])).length) Slot.unset).toArray = ls at hl ⊢
  have hl : lv_has ls 5 [(0, .ref (qAc 0)), (1, .int 90), (2, .int p3), (3, .int p4)] := hl
  refine w_gen (fun Q hQ => ?_)
  refine lv_iconst (v := 0) hx hb dX12_copyRow_0 (by decide) ?_
  refine lv_istore (lv' := [(4, .int 0), (0, .ref (qAc 0)), (1, .int 90), (2, .int p3), (3, .int p4)]) hx hb dX12_copyRow_1 hl (by decide) rfl (fun ls hl => ?_)
  have lp3_kz17 : ∀ (n9_3 : Nat) (H : Heap) (locs : List Loc) (ls : Array Slot) (iz15 : Nat → Nat → Int32) (xz16 : Int32), (2147483647 - xz16.toInt).toNat < n9_3 → Pa_i iz15 → 0 ≤ xz16.toInt → va_P (dC, dI) vwCl (List.flatten [(wmAc qAc k iz15)] ++ List.flatten ([] : List va_W)) H → va_D A (List.flatten [(wmAc qAc k iz15)] ++ List.flatten ([] : List va_W)) → va_S A s.heap H locs → lv_has ls 5 [(0, .ref (qAc 0)), (1, .int 90), (2, .int p3), (3, .int p4), (4, .int xz16)] → W p l e (headSpec wk_c_copyRow_Ac ({ frames := 0, cells := 0, slots := 0, locals := 0 })).room s m ([.ref (qAc 0), .int 90, .int p3, .int p4] : List Value).toArray below meth c H locs 0 0 Q (F0 m 3 ls []) := by
    intro n9_3
    induction n9_3 with
    | zero => intro H locs ls iz15 xz16 hm; exact absurd hm (Nat.not_lt_zero _)
    | succ n9_3 ih3 =>
      intro H locs ls iz15 xz16 hm3 hiz15 jz18 hP hD hS hl
      refine lv_iload hx hb dX12_copyRow_3 (lv_at hl 4 rfl) ?_
      refine lv_iload_n hx hb dX12_copyRow_5 rfl (lv_at hl 1 rfl) ?_
      refine lv_icmp_ge (tgt := 31) hx hb dX12_copyRow_6 (by decide) (fun cz19 => ?_) (fun cz19 => ?_)
      · skip
        have bz20 := fb_rng xz16
        have zz21 : (90 : Int) ≤ xz16.toInt := zi_le.mp cz19
        rw [hQ]
        exact W.vret hx hb hr (fun t ht hW => ⟨⟨(), rfl, trivial, iz15, hiz15, by rw [ht]; exact hP⟩, hS.F ht⟩) hS.2.2 dX12_copyRow_31
      · skip
        have bz22 := fb_rng xz16
        have zz23 : ¬ (90 : Int) ≤ xz16.toInt := fun h9 => cz19 (zi_le.mpr h9)
        refine lv_aload_n hx hb dX12_copyRow_9 rfl (lv_at hl 0 rfl) ?_
        refine lv_iload_n hx hb dX12_copyRow_10 rfl (lv_at hl 1 rfl) ?_
        refine lv_iload_n hx hb dX12_copyRow_11 rfl (lv_at hl 3 rfl) ?_
        refine lv_imul hx hb dX12_copyRow_12 ?_
        refine lv_topi (fun xz24 exz24 => ?_)
        have fxz24 : xz24.toInt = (90 : Int) * p4.toInt := by rw [exz24]; exact fb_mulI (x := (90 : Int32)) (y := p4) (by show -2147483648 ≤ (90 : Int) * p4.toInt; omega) (by show (90 : Int) * p4.toInt < 2147483648; omega)
        refine lv_iload hx hb dX12_copyRow_13 (lv_at hl 4 rfl) ?_
        refine lv_iadd hx hb dX12_copyRow_15 ?_
        refine lv_topi (fun xz25 exz25 => ?_)
        have fxz25 : xz25.toInt = xz24.toInt + xz16.toInt := by rw [exz25]; exact fb_addI (x := xz24) (y := xz16) (by show -2147483648 ≤ xz24.toInt + xz16.toInt; omega) (by show xz24.toInt + xz16.toInt < 2147483648; omega)
        refine lv_aload_n hx hb dX12_copyRow_16 rfl (lv_at hl 0 rfl) ?_
        refine lv_iload_n hx hb dX12_copyRow_17 rfl (lv_at hl 1 rfl) ?_
        refine lv_iload_n hx hb dX12_copyRow_18 rfl (lv_at hl 2 rfl) ?_
        refine lv_imul hx hb dX12_copyRow_19 ?_
        refine lv_topi (fun xz26 exz26 => ?_)
        have fxz26 : xz26.toInt = (90 : Int) * p3.toInt := by rw [exz26]; exact fb_mulI (x := (90 : Int32)) (y := p3) (by show -2147483648 ≤ (90 : Int) * p3.toInt; omega) (by show (90 : Int) * p3.toInt < 2147483648; omega)
        refine lv_iload hx hb dX12_copyRow_20 (lv_at hl 4 rfl) ?_
        refine lv_iadd hx hb dX12_copyRow_22 ?_
        refine lv_topi (fun xz27 exz27 => ?_)
        have fxz27 : xz27.toInt = xz26.toInt + xz16.toInt := by rw [exz27]; exact fb_addI (x := xz26) (y := xz16) (by show -2147483648 ≤ xz26.toInt + xz16.toInt; omega) (by show xz26.toInt + xz16.toInt < 2147483648; omega)
        refine va_iald hx hb hK hP 0 0 rfl rfl (vp_in_iff.mpr ⟨by omega, by omega⟩) dX12_copyRow_23 ?_
        refine lv_topi (fun xz28 exz28 => ?_)
        have bxz28_0 : xz27.toInt % 3 = 1 → 0 ≤ xz28.toInt ∧ xz28.toInt ≤ 6 := by rw [exz28]; exact md_rd (hiz15 0).1 (by omega)
        have bxz28_1 : xz27.toInt % 3 = 2 → (-1) ≤ xz28.toInt ∧ xz28.toInt ≤ 2 := by rw [exz28]; exact md_rd (hiz15 0).2 (by omega)
        refine va_iast hx hb hK hP hD hS 0 0 rfl rfl (vp_in_iff.mpr ⟨by omega, by omega⟩) dX12_copyRow_24 (fun H locs hP hD hS => ?_)
        obtain ⟨fz29, efz29, hP, hD⟩ : ∃ fz29 : Nat → Int32, fz29 = upd (iz15 0) xz25.toNatClampNeg xz28 ∧ va_P (dC, dI) vwCl (List.flatten [(wmAc qAc k (va_up iz15 0 fz29))] ++ List.flatten ([] : List va_W)) H ∧ va_D A (List.flatten [(wmAc qAc k (va_up iz15 0 fz29))] ++ List.flatten ([] : List va_W)) := ⟨_, rfl, hP, hD⟩
        have hfz29 : Pd_i fz29 := by rw [efz29]; exact ⟨md_upd (hiz15 0).1 (by show 0 ≤ xz25.toInt; omega) (by show xz25.toInt % 3 = 1 → 0 ≤ xz28.toInt ∧ xz28.toInt ≤ 6; omega), md_upd (hiz15 0).2 (by show 0 ≤ xz25.toInt; omega) (by show xz25.toInt % 3 = 2 → (-1) ≤ xz28.toInt ∧ xz28.toInt ≤ 2; omega)⟩
        have kfz29 : fz29 xz25.toNatClampNeg = xz28 := by rw [efz29]; exact pk_us
        obtain ⟨xz30, exz30⟩ : ∃ y : Int32, y = xz16 + Int32.ofInt (1) := ⟨_, rfl⟩
        have fxz30 : xz30.toInt = xz16.toInt + (1) := by rw [exz30]; exact fb_addI (y := Int32.ofInt (1)) (by show -2147483648 ≤ xz16.toInt + (1); omega) (by show xz16.toInt + (1) < 2147483648; omega)
        refine lv_iinc (v := xz30) (lv' := [(4, .int xz30), (0, .ref (qAc 0)), (1, .int 90), (2, .int p3), (3, .int p4)]) hx hb dX12_copyRow_25 hl (k := 4) rfl exz30.symm (by decide) rfl (fun ls hl => ?_)
        refine lv_goto (tgt := 3) hx hb dX12_copyRow_28 (by decide) ?_
        exact ih3 H locs ls (va_up iz15 0 fz29) xz30 (by show (2147483647 - xz30.toInt).toNat < n9_3; omega) (pa_up_i hiz15 hfz29) (by show 0 ≤ xz30.toInt; omega) hP hD hS (lv_sub hl [1, 2, 3, 4, 0] rfl)
  exact lp3_kz17 _ s.heap [] ls iAc (0 : Int32) (Nat.lt_succ_self _) hiAc (by show 0 ≤ (0 : Int); omega) hP hD hS (lv_sub hl [1, 2, 3, 4, 0] rfl)
def wk_c_X12_copyValley : List Cond := .code yX12_copyValley cX12_copyValley 3 none :: ([.fieldLink RX12 31 "SagMemoryModel" "lines" "[I", .methodLink RX12 279 yX12_copyRow, .static yX12_copyRow, .initialized RX12, .fieldLink RX12 34 "SagMemoryModel" "has" "[I", .fieldLink RX12 37 "SagMemoryModel" "bridge" "[I", .fieldLink RX12 40 "SagMemoryModel" "cart" "[I", .fieldLink RX12 43 "SagMemoryModel" "ward" "[I", .fieldLink RX12 46 "SagMemoryModel" "frostAt" "[I", .fieldLink RX12 49 "SagMemoryModel" "act" "[I"] ++ (wsX120 ++ (wk_c_copyRow_Li ++ (wk_c_copyRow_Ha ++ (wk_c_copyRow_Br ++ (wk_c_copyRow_Ca ++ (wk_c_copyRow_Wa ++ (wk_c_copyRow_Fr ++ (wk_c_copyRow_Ac ++ [])))))))))
theorem wkg_c_X12_copyValley : wk_c_X12_copyValley.all goodWord = true := by decide +kernel
set_option maxHeartbeats 4000000 in
set_option maxRecDepth 100000 in
theorem c_X12_copyValley (l : Launch) (dC : Nat → ClassId) (dI : Nat → Nat → Nat) (k : Nat → ClassId) (sz : Nat) (qO : Nat → Nat) (widthO : Nat) (manyO : Nat) (cellsO : Nat) (movedO : Nat) (tapeO : Nat) (isKeptO : Nat) (loadNowO : Nat) (byNowO : Nat) (rowO : Nat) (memoryO : Nat) (whoseO : Nat) (deepNowO : Nat) (brokenByO : Nat) (brokenAtO : Nat) (goesByO : Nat) (comesToO : Nat) (sagMoreO : Nat) (creakOfO : Nat) (wipedByO : Nat) (deepAtO : Nat) (sagAtO : Nat) (loadAtO : Nat) (orderRowO : Nat) (oftenO : Nat) (lossOneO : Nat) (lossOtherO : Nat) (vO : Nat → Int32) (tO : Nat → Int32) (mO : Nat → Int32) (gO : Nat → Int64) (qLi : Nat → Nat) (aLi : Nat → Nat → Int32) (qHa : Nat → Nat) (hHa : Nat → Nat → Int32) (qBr : Nat → Nat) (aBr : Nat → Nat → Int32) (qCa : Nat → Nat) (pCa : Nat → Nat → Int32) (qWa : Nat → Nat) (jWa : Nat → Nat → Int32) (qFr : Nat → Nat) (aFr : Nat → Nat → Int32) (qAc : Nat → Nat) (iAc : Nat → Nat → Int32) (p1 : Int32) (p2 : Int32) (htO : Rg 0 700 tO) (hmO : Rg (-1) 127 mO) (hhHa : Pa_h hHa) (hpCa : Pa_p pCa) (hjWa : Pa_j jWa) (hiAc : Pa_i iAc) (hp0 : 0 ≤ p1.toInt ∧ p1.toInt ≤ 4) (hp1 : 0 ≤ p2.toInt ∧ p2.toInt ≤ 4) : Met l yX12_copyValley wk_c_X12_copyValley ({ frames := 1, cells := 0, slots := 0, locals := 24 }) (va_Pc [.ref (qO 0), .int p1, .int p2] (fun U => U.heap.size = sz ∧ va_P (dC, dI) vwCl (List.flatten [(wmLi qLi k aLi), (wmHa qHa k hHa), (wmBr qBr k aBr), (wmCa qCa k pCa), (wmWa qWa k jWa), (wmFr qFr k aFr), (wmAc qAc k iAc)] ++ List.flatten [(wMO qO k widthO manyO cellsO movedO tapeO (qLi 0) (qHa 0) (qBr 0) (qCa 0) (qWa 0) (qFr 0) (qAc 0) isKeptO loadNowO byNowO rowO memoryO whoseO deepNowO brokenByO brokenAtO goesByO comesToO sagMoreO creakOfO wipedByO deepAtO sagAtO loadAtO orderRowO oftenO lossOneO lossOtherO vO tO mO gO)]) U.heap ∧ va_K (dC, dI) vwCl (tK k) U ∧ va_D (fun _ => True) (List.flatten [(wmLi qLi k aLi), (wmHa qHa k hHa), (wmBr qBr k aBr), (wmCa qCa k pCa), (wmWa qWa k jWa), (wmFr qFr k aFr), (wmAc qAc k iAc)] ++ List.flatten [(wMO qO k widthO manyO cellsO movedO tapeO (qLi 0) (qHa 0) (qBr 0) (qCa 0) (qWa 0) (qFr 0) (qAc 0) isKeptO loadNowO byNowO rowO memoryO whoseO deepNowO brokenByO brokenAtO goesByO comesToO sagMoreO creakOfO wipedByO deepAtO sagAtO loadAtO orderRowO oftenO lossOneO lossOtherO vO tO mO gO)]))) (va_Qv (fun _ : Unit => True) (fun (_ : Unit) (t : State) => ∃ (aLi' : Nat → Nat → Int32) (hHa' : Nat → Nat → Int32) (aBr' : Nat → Nat → Int32) (pCa' : Nat → Nat → Int32) (jWa' : Nat → Nat → Int32) (aFr' : Nat → Nat → Int32) (iAc' : Nat → Nat → Int32), Pa_h hHa' ∧ Pa_p pCa' ∧ Pa_j jWa' ∧ Pa_i iAc' ∧ va_P (dC, dI) vwCl (List.flatten [(wmLi qLi k aLi'), (wmHa qHa k hHa'), (wmBr qBr k aBr'), (wmCa qCa k pCa'), (wmWa qWa k jWa'), (wmFr qFr k aFr'), (wmAc qAc k iAc')] ++ List.flatten [(wMO qO k widthO manyO cellsO movedO tapeO (qLi 0) (qHa 0) (qBr 0) (qCa 0) (qWa 0) (qFr 0) (qAc 0) isKeptO loadNowO byNowO rowO memoryO whoseO deepNowO brokenByO brokenAtO goesByO comesToO sagMoreO creakOfO wipedByO deepAtO sagAtO loadAtO orderRowO oftenO lossOneO lossOtherO vO tO mO gO)]) t.heap) (va_A (List.flatten [(wmLi qLi k aLi), (wmHa qHa k hHa), (wmBr qBr k aBr), (wmCa qCa k pCa), (wmWa qWa k jWa), (wmFr qFr k aFr), (wmAc qAc k iAc)] ++ List.flatten [(wMO qO k widthO manyO cellsO movedO tapeO (qLi 0) (qHa 0) (qBr 0) (qCa 0) (qWa 0) (qFr 0) (qAc 0) isKeptO loadNowO byNowO rowO memoryO whoseO deepNowO brokenByO brokenAtO goesByO comesToO sagMoreO creakOfO wipedByO deepAtO sagAtO loadAtO orderRowO oftenO lossOneO lossOtherO vO tO mO gO)]) sz)) 0 0 (va_A (List.flatten [(wmLi qLi k aLi), (wmHa qHa k hHa), (wmBr qBr k aBr), (wmCa qCa k pCa), (wmWa qWa k jWa), (wmFr qFr k aFr), (wmAc qAc k iAc)] ++ List.flatten [(wMO qO k widthO manyO cellsO movedO tapeO (qLi 0) (qHa 0) (qBr 0) (qCa 0) (qWa 0) (qFr 0) (qAc 0) isKeptO loadNowO byNowO rowO memoryO whoseO deepNowO brokenByO brokenAtO goesByO comesToO sagMoreO creakOfO wipedByO deepAtO sagAtO loadAtO orderRowO oftenO lossOneO lossOtherO vO tO mO gO)]) sz) := by
  refine Met.ofW (cc := cX12_copyValley) (maxL := 3) (ret := none) (by decide) rfl ?_
  intro p e s m args below meth c s₁ B hml hv
  obtain ⟨rfl, hsz, hP, hK, hD0⟩ := hv
  have hx := B.exec
  have hb := B.bytes
  have hr := B.returns
  have hts := atoms_spec (ws := wk_c_X12_copyValley) B.pre
  have hown : s.vm.findClass RX12 = some m.cls := findClass_of_methodNamed B.named
  have hlocks := B.notSynchronized
  subst hsz
  have hD := hD0.self (sz := s.heap.size)
  generalize hAe : va_A (List.flatten [(wmLi qLi k aLi), (wmHa qHa k hHa), (wmBr qBr k aBr), (wmCa qCa k pCa), (wmWa qWa k jWa), (wmFr qFr k aFr), (wmAc qAc k iAc)] ++ List.flatten [(wMO qO k widthO manyO cellsO movedO tapeO (qLi 0) (qHa 0) (qBr 0) (qCa 0) (qWa 0) (qFr 0) (qAc 0) isKeptO loadNowO byNowO rowO memoryO whoseO deepNowO brokenByO brokenAtO goesByO comesToO sagMoreO creakOfO wipedByO deepAtO sagAtO loadAtO orderRowO oftenO lossOneO lossOtherO vO tO mO gO)]) s.heap.size = A at hD ⊢
  have hA : ∀ q : Nat, s.heap.size ≤ q → A q := fun q h => by rw [← hAe]; exact Or.inr h
  have hS : va_S A s.heap s.heap [] := va_S.rf
  have hP : va_P (dC, dI) vwCl (List.flatten [(wmLi qLi k aLi), (wmHa qHa k hHa), (wmBr qBr k aBr), (wmCa qCa k pCa), (wmWa qWa k jWa), (wmFr qFr k aFr), (wmAc qAc k iAc)] ++ List.flatten [(wMO qO k widthO manyO cellsO movedO tapeO (qLi 0) (qHa 0) (qBr 0) (qCa 0) (qWa 0) (qFr 0) (qAc 0) isKeptO loadNowO byNowO rowO memoryO whoseO deepNowO brokenByO brokenAtO goesByO comesToO sagMoreO creakOfO wipedByO deepAtO sagAtO loadAtO orderRowO oftenO lossOneO lossOtherO vO tO mO gO)]) s.heap := hP
  have hl := lv_entry ([.ref (qO 0), .int p1, .int p2]) (n := 3) (Nat.le_of_ble_eq_true rfl)
  rw [lg_entry_eq]
  generalize (lg_sl ([.ref (qO 0), .int p1, .int p2]) ++ List.replicate (3 - (lg_sl ([.ref (qO 0), .int p1, .int p2])).length) Slot.unset).toArray = ls at hl ⊢
  have hl : lv_has ls 3 [(0, .ref (qO 0)), (1, .int p1), (2, .int p2)] := hl
  refine w_gen (fun Q hQ => ?_)
  refine lv_aload_n hx hb dX12_copyValley_0 rfl (lv_at hl 0 rfl) ?_
  refine va_get (D := (dC, dI)) (ci := 12) (v := .ref (qLi 0)) (C := RX12) (T := TX12) (N := 59) hx hb hts (fun w h => List.mem_cons_of_mem _ (List.mem_append_right _ (List.mem_append_left _ h))) hown hK hP 7 rfl rfl 16 (by decide) (hts (.fieldLink RX12 31 "SagMemoryModel" "lines" "[I") (wl_mem 0 rfl)) (fun _ h9 => h9) rfl dX12_copyValley_1 ?_
  refine lv_iconst (v := 1) hx hb dX12_copyValley_4 (by decide) ?_
  refine lv_iload_n hx hb dX12_copyValley_5 rfl (lv_at hl 1 rfl) ?_
  refine lv_iload_n hx hb dX12_copyValley_6 rfl (lv_at hl 2 rfl) ?_
  have hPc := hP.sub (ws' := (List.flatten [(wmLi qLi k aLi)] ++ List.flatten ([] : List va_W))) [0] rfl
  have hC : [0].map (fun i => (List.flatten [(wmLi qLi k aLi), (wmHa qHa k hHa), (wmBr qBr k aBr), (wmCa qCa k pCa), (wmWa qWa k jWa), (wmFr qFr k aFr), (wmAc qAc k iAc)] ++ List.flatten [(wMO qO k widthO manyO cellsO movedO tapeO (qLi 0) (qHa 0) (qBr 0) (qCa 0) (qWa 0) (qFr 0) (qAc 0) isKeptO loadNowO byNowO rowO memoryO whoseO deepNowO brokenByO brokenAtO goesByO comesToO sagMoreO creakOfO wipedByO deepAtO sagAtO loadAtO orderRowO oftenO lossOneO lossOtherO vO tO mO gO)])[i]?) = (List.flatten [(wmLi qLi k aLi)] ++ List.flatten ([] : List va_W)).map some := rfl
  have hDc := hD.sub [0] (by decide) hC
  have hFc := va_free hD hS hA [0] hC
  refine va_callv (va_runS (As := [.ref (qLi 0), .int 1, .int p1, .int p2]) (rest := []) ⟨hx, hb, hml, hown, hts⟩ (c_copyRow_Li l dC dI k s.heap.size qLi aLi p1 p2 (by show 0 ≤ p1.toInt ∧ p1.toInt ≤ 4; omega) (by show 0 ≤ p2.toInt ∧ p2.toInt ≤ 4; omega)) (va_cwS 4 hts (gk_S (wl_mem 1 rfl) (wl_mem 2 rfl) (wl_mem 3 rfl) (fun w h => List.mem_cons_of_mem _ (List.mem_append_right _ (List.mem_append_right _ (List.mem_append_left _ h)))) wkg_c_copyRow_Li) rfl rfl rfl (by decide +kernel) ⟨Nat.le_of_ble_eq_true rfl, Nat.le_of_ble_eq_true rfl⟩) ⟨fun a U g mk q => by obtain ⟨q0, q1, qP, qK, qD⟩ := q; exact ⟨q0, q1, qP, va_K.moved (u := U) (U := U.calling g mk a) (Vm.Alike.refl U.vm) qK, qD⟩, fun U hU hW => ⟨rfl, by rw [hU], by rw [hU]; exact hPc, va_K.moved hW.alike hK, hDc.weaken (fun _ _ _ _ => trivial)⟩⟩ rfl rfl hl.1 rfl (lv_room (Nat.le_of_ble_eq_true rfl)) dX12_copyValley_7 ⟨Nat.le_of_ble_eq_true rfl, Nat.le_of_ble_eq_true rfl⟩) hS (fun q _ h => hFc q h) hFc (fun u t H1 locs ht hvm gz1 hB hz1 hk1 hS => ?_)
  obtain ⟨az3, hP1⟩ := hB
  rw [ht] at hP1
  obtain ⟨hP, hD⟩ := w_callR hP hD hk1 hP1 [0] rfl rfl (fun _ h => absurd h List.not_mem_nil) rfl [some 0, none, none, none, none, none, none] rfl rfl
  clear hPc hC hDc hFc hk1 hP1
  generalize H1 = H at hP hS ⊢
  have hP : va_P (dC, dI) vwCl (List.flatten [(wmLi qLi k az3), (wmHa qHa k hHa), (wmBr qBr k aBr), (wmCa qCa k pCa), (wmWa qWa k jWa), (wmFr qFr k aFr), (wmAc qAc k iAc)] ++ List.flatten [(wMO qO k widthO manyO cellsO movedO tapeO (qLi 0) (qHa 0) (qBr 0) (qCa 0) (qWa 0) (qFr 0) (qAc 0) isKeptO loadNowO byNowO rowO memoryO whoseO deepNowO brokenByO brokenAtO goesByO comesToO sagMoreO creakOfO wipedByO deepAtO sagAtO loadAtO orderRowO oftenO lossOneO lossOtherO vO tO mO gO)]) H := hP
  have hD : va_D A (List.flatten [(wmLi qLi k az3), (wmHa qHa k hHa), (wmBr qBr k aBr), (wmCa qCa k pCa), (wmWa qWa k jWa), (wmFr qFr k aFr), (wmAc qAc k iAc)] ++ List.flatten [(wMO qO k widthO manyO cellsO movedO tapeO (qLi 0) (qHa 0) (qBr 0) (qCa 0) (qWa 0) (qFr 0) (qAc 0) isKeptO loadNowO byNowO rowO memoryO whoseO deepNowO brokenByO brokenAtO goesByO comesToO sagMoreO creakOfO wipedByO deepAtO sagAtO loadAtO orderRowO oftenO lossOneO lossOtherO vO tO mO gO)]) := hD
  refine W.widen (k := 0) (n := 0) (Nat.le_refl 0) (Nat.le_refl 0) ?_
  refine lv_aload_n hx hb dX12_copyValley_10 rfl (lv_at hl 0 rfl) ?_
  refine va_get (D := (dC, dI)) (ci := 12) (v := .ref (qHa 0)) (C := RX12) (T := TX12) (N := 59) hx hb hts (fun w h => List.mem_cons_of_mem _ (List.mem_append_right _ (List.mem_append_left _ h))) hown hK hP 7 rfl rfl 17 (by decide) (hts (.fieldLink RX12 34 "SagMemoryModel" "has" "[I") (wl_mem 4 rfl)) (fun _ h9 => h9) rfl dX12_copyValley_11 ?_
  refine lv_bipush (v := 8) hx hb dX12_copyValley_14 (by decide) ?_
  refine lv_iload_n hx hb dX12_copyValley_16 rfl (lv_at hl 1 rfl) ?_
  refine lv_iload_n hx hb dX12_copyValley_17 rfl (lv_at hl 2 rfl) ?_
  have hPc := hP.sub (ws' := (List.flatten [(wmHa qHa k hHa)] ++ List.flatten ([] : List va_W))) [1] rfl
  have hC : [1].map (fun i => (List.flatten [(wmLi qLi k az3), (wmHa qHa k hHa), (wmBr qBr k aBr), (wmCa qCa k pCa), (wmWa qWa k jWa), (wmFr qFr k aFr), (wmAc qAc k iAc)] ++ List.flatten [(wMO qO k widthO manyO cellsO movedO tapeO (qLi 0) (qHa 0) (qBr 0) (qCa 0) (qWa 0) (qFr 0) (qAc 0) isKeptO loadNowO byNowO rowO memoryO whoseO deepNowO brokenByO brokenAtO goesByO comesToO sagMoreO creakOfO wipedByO deepAtO sagAtO loadAtO orderRowO oftenO lossOneO lossOtherO vO tO mO gO)])[i]?) = (List.flatten [(wmHa qHa k hHa)] ++ List.flatten ([] : List va_W)).map some := rfl
  have hDc := hD.sub [1] (by decide) hC
  have hFc := va_free hD hS hA [1] hC
  refine va_callv (va_runS (As := [.ref (qHa 0), .int 8, .int p1, .int p2]) (rest := []) ⟨hx, hb, hml, hown, hts⟩ (c_copyRow_Ha l dC dI k H.size qHa hHa p1 p2 hhHa (by show 0 ≤ p1.toInt ∧ p1.toInt ≤ 4; omega) (by show 0 ≤ p2.toInt ∧ p2.toInt ≤ 4; omega)) (va_cwS 4 hts (gk_S (wl_mem 1 rfl) (wl_mem 2 rfl) (wl_mem 3 rfl) (fun w h => List.mem_cons_of_mem _ (List.mem_append_right _ (List.mem_append_right _ (List.mem_append_right _ (List.mem_append_left _ h))))) wkg_c_copyRow_Ha) rfl rfl rfl (by decide +kernel) ⟨Nat.le_of_ble_eq_true rfl, Nat.le_of_ble_eq_true rfl⟩) ⟨fun a U g mk q => by obtain ⟨q0, q1, qP, qK, qD⟩ := q; exact ⟨q0, q1, qP, va_K.moved (u := U) (U := U.calling g mk a) (Vm.Alike.refl U.vm) qK, qD⟩, fun U hU hW => ⟨rfl, by rw [hU], by rw [hU]; exact hPc, va_K.moved hW.alike hK, hDc.weaken (fun _ _ _ _ => trivial)⟩⟩ rfl rfl hl.1 rfl (lv_room (Nat.le_of_ble_eq_true rfl)) dX12_copyValley_18 ⟨Nat.le_of_ble_eq_true rfl, Nat.le_of_ble_eq_true rfl⟩) hS (fun q _ h => hFc q h) hFc (fun u t H1 locs ht hvm gz4 hB hz1 hk1 hS => ?_)
  obtain ⟨hz6, hhz6, hP1⟩ := hB
  rw [ht] at hP1
  obtain ⟨hP, hD⟩ := w_callR hP hD hk1 hP1 [1] rfl rfl (fun _ h => absurd h List.not_mem_nil) rfl [none, some 0, none, none, none, none, none] rfl rfl
  clear hPc hC hDc hFc hk1 hP1
  generalize H1 = H at hP hS ⊢
  have hP : va_P (dC, dI) vwCl (List.flatten [(wmLi qLi k az3), (wmHa qHa k hz6), (wmBr qBr k aBr), (wmCa qCa k pCa), (wmWa qWa k jWa), (wmFr qFr k aFr), (wmAc qAc k iAc)] ++ List.flatten [(wMO qO k widthO manyO cellsO movedO tapeO (qLi 0) (qHa 0) (qBr 0) (qCa 0) (qWa 0) (qFr 0) (qAc 0) isKeptO loadNowO byNowO rowO memoryO whoseO deepNowO brokenByO brokenAtO goesByO comesToO sagMoreO creakOfO wipedByO deepAtO sagAtO loadAtO orderRowO oftenO lossOneO lossOtherO vO tO mO gO)]) H := hP
  have hD : va_D A (List.flatten [(wmLi qLi k az3), (wmHa qHa k hz6), (wmBr qBr k aBr), (wmCa qCa k pCa), (wmWa qWa k jWa), (wmFr qFr k aFr), (wmAc qAc k iAc)] ++ List.flatten [(wMO qO k widthO manyO cellsO movedO tapeO (qLi 0) (qHa 0) (qBr 0) (qCa 0) (qWa 0) (qFr 0) (qAc 0) isKeptO loadNowO byNowO rowO memoryO whoseO deepNowO brokenByO brokenAtO goesByO comesToO sagMoreO creakOfO wipedByO deepAtO sagAtO loadAtO orderRowO oftenO lossOneO lossOtherO vO tO mO gO)]) := hD
  refine W.widen (k := 0) (n := 0) (Nat.le_refl 0) (Nat.le_refl 0) ?_
  refine lv_aload_n hx hb dX12_copyValley_21 rfl (lv_at hl 0 rfl) ?_
  refine va_get (D := (dC, dI)) (ci := 12) (v := .ref (qBr 0)) (C := RX12) (T := TX12) (N := 59) hx hb hts (fun w h => List.mem_cons_of_mem _ (List.mem_append_right _ (List.mem_append_left _ h))) hown hK hP 7 rfl rfl 18 (by decide) (hts (.fieldLink RX12 37 "SagMemoryModel" "bridge" "[I") (wl_mem 5 rfl)) (fun _ h9 => h9) rfl dX12_copyValley_22 ?_
  refine lv_bipush (v := 6) hx hb dX12_copyValley_25 (by decide) ?_
  refine lv_iload_n hx hb dX12_copyValley_27 rfl (lv_at hl 1 rfl) ?_
  refine lv_iload_n hx hb dX12_copyValley_28 rfl (lv_at hl 2 rfl) ?_
  have hPc := hP.sub (ws' := (List.flatten [(wmBr qBr k aBr)] ++ List.flatten ([] : List va_W))) [2] rfl
  have hC : [2].map (fun i => (List.flatten [(wmLi qLi k az3), (wmHa qHa k hz6), (wmBr qBr k aBr), (wmCa qCa k pCa), (wmWa qWa k jWa), (wmFr qFr k aFr), (wmAc qAc k iAc)] ++ List.flatten [(wMO qO k widthO manyO cellsO movedO tapeO (qLi 0) (qHa 0) (qBr 0) (qCa 0) (qWa 0) (qFr 0) (qAc 0) isKeptO loadNowO byNowO rowO memoryO whoseO deepNowO brokenByO brokenAtO goesByO comesToO sagMoreO creakOfO wipedByO deepAtO sagAtO loadAtO orderRowO oftenO lossOneO lossOtherO vO tO mO gO)])[i]?) = (List.flatten [(wmBr qBr k aBr)] ++ List.flatten ([] : List va_W)).map some := rfl
  have hDc := hD.sub [2] (by decide) hC
  have hFc := va_free hD hS hA [2] hC
  refine va_callv (va_runS (As := [.ref (qBr 0), .int 6, .int p1, .int p2]) (rest := []) ⟨hx, hb, hml, hown, hts⟩ (c_copyRow_Br l dC dI k H.size qBr aBr p1 p2 (by show 0 ≤ p1.toInt ∧ p1.toInt ≤ 4; omega) (by show 0 ≤ p2.toInt ∧ p2.toInt ≤ 4; omega)) (va_cwS 4 hts (gk_S (wl_mem 1 rfl) (wl_mem 2 rfl) (wl_mem 3 rfl) (fun w h => List.mem_cons_of_mem _ (List.mem_append_right _ (List.mem_append_right _ (List.mem_append_right _ (List.mem_append_right _ (List.mem_append_left _ h)))))) wkg_c_copyRow_Br) rfl rfl rfl (by decide +kernel) ⟨Nat.le_of_ble_eq_true rfl, Nat.le_of_ble_eq_true rfl⟩) ⟨fun a U g mk q => by obtain ⟨q0, q1, qP, qK, qD⟩ := q; exact ⟨q0, q1, qP, va_K.moved (u := U) (U := U.calling g mk a) (Vm.Alike.refl U.vm) qK, qD⟩, fun U hU hW => ⟨rfl, by rw [hU], by rw [hU]; exact hPc, va_K.moved hW.alike hK, hDc.weaken (fun _ _ _ _ => trivial)⟩⟩ rfl rfl hl.1 rfl (lv_room (Nat.le_of_ble_eq_true rfl)) dX12_copyValley_29 ⟨Nat.le_of_ble_eq_true rfl, Nat.le_of_ble_eq_true rfl⟩) hS (fun q _ h => hFc q h) hFc (fun u t H1 locs ht hvm gz7 hB hz1 hk1 hS => ?_)
  obtain ⟨az9, hP1⟩ := hB
  rw [ht] at hP1
  obtain ⟨hP, hD⟩ := w_callR hP hD hk1 hP1 [2] rfl rfl (fun _ h => absurd h List.not_mem_nil) rfl [none, none, some 0, none, none, none, none] rfl rfl
  clear hPc hC hDc hFc hk1 hP1
  generalize H1 = H at hP hS ⊢
  have hP : va_P (dC, dI) vwCl (List.flatten [(wmLi qLi k az3), (wmHa qHa k hz6), (wmBr qBr k az9), (wmCa qCa k pCa), (wmWa qWa k jWa), (wmFr qFr k aFr), (wmAc qAc k iAc)] ++ List.flatten [(wMO qO k widthO manyO cellsO movedO tapeO (qLi 0) (qHa 0) (qBr 0) (qCa 0) (qWa 0) (qFr 0) (qAc 0) isKeptO loadNowO byNowO rowO memoryO whoseO deepNowO brokenByO brokenAtO goesByO comesToO sagMoreO creakOfO wipedByO deepAtO sagAtO loadAtO orderRowO oftenO lossOneO lossOtherO vO tO mO gO)]) H := hP
  have hD : va_D A (List.flatten [(wmLi qLi k az3), (wmHa qHa k hz6), (wmBr qBr k az9), (wmCa qCa k pCa), (wmWa qWa k jWa), (wmFr qFr k aFr), (wmAc qAc k iAc)] ++ List.flatten [(wMO qO k widthO manyO cellsO movedO tapeO (qLi 0) (qHa 0) (qBr 0) (qCa 0) (qWa 0) (qFr 0) (qAc 0) isKeptO loadNowO byNowO rowO memoryO whoseO deepNowO brokenByO brokenAtO goesByO comesToO sagMoreO creakOfO wipedByO deepAtO sagAtO loadAtO orderRowO oftenO lossOneO lossOtherO vO tO mO gO)]) := hD
  refine W.widen (k := 0) (n := 0) (Nat.le_refl 0) (Nat.le_refl 0) ?_
  refine lv_aload_n hx hb dX12_copyValley_32 rfl (lv_at hl 0 rfl) ?_
  refine va_get (D := (dC, dI)) (ci := 12) (v := .ref (qCa 0)) (C := RX12) (T := TX12) (N := 59) hx hb hts (fun w h => List.mem_cons_of_mem _ (List.mem_append_right _ (List.mem_append_left _ h))) hown hK hP 7 rfl rfl 19 (by decide) (hts (.fieldLink RX12 40 "SagMemoryModel" "cart" "[I") (wl_mem 6 rfl)) (fun _ h9 => h9) rfl dX12_copyValley_33 ?_
  refine lv_bipush (v := 14) hx hb dX12_copyValley_36 (by decide) ?_
  refine lv_iload_n hx hb dX12_copyValley_38 rfl (lv_at hl 1 rfl) ?_
  refine lv_iload_n hx hb dX12_copyValley_39 rfl (lv_at hl 2 rfl) ?_
  have hPc := hP.sub (ws' := (List.flatten [(wmCa qCa k pCa)] ++ List.flatten ([] : List va_W))) [3] rfl
  have hC : [3].map (fun i => (List.flatten [(wmLi qLi k az3), (wmHa qHa k hz6), (wmBr qBr k az9), (wmCa qCa k pCa), (wmWa qWa k jWa), (wmFr qFr k aFr), (wmAc qAc k iAc)] ++ List.flatten [(wMO qO k widthO manyO cellsO movedO tapeO (qLi 0) (qHa 0) (qBr 0) (qCa 0) (qWa 0) (qFr 0) (qAc 0) isKeptO loadNowO byNowO rowO memoryO whoseO deepNowO brokenByO brokenAtO goesByO comesToO sagMoreO creakOfO wipedByO deepAtO sagAtO loadAtO orderRowO oftenO lossOneO lossOtherO vO tO mO gO)])[i]?) = (List.flatten [(wmCa qCa k pCa)] ++ List.flatten ([] : List va_W)).map some := rfl
  have hDc := hD.sub [3] (by decide) hC
  have hFc := va_free hD hS hA [3] hC
  refine va_callv (va_runS (As := [.ref (qCa 0), .int 14, .int p1, .int p2]) (rest := []) ⟨hx, hb, hml, hown, hts⟩ (c_copyRow_Ca l dC dI k H.size qCa pCa p1 p2 hpCa (by show 0 ≤ p1.toInt ∧ p1.toInt ≤ 4; omega) (by show 0 ≤ p2.toInt ∧ p2.toInt ≤ 4; omega)) (va_cwS 4 hts (gk_S (wl_mem 1 rfl) (wl_mem 2 rfl) (wl_mem 3 rfl) (fun w h => List.mem_cons_of_mem _ (List.mem_append_right _ (List.mem_append_right _ (List.mem_append_right _ (List.mem_append_right _ (List.mem_append_right _ (List.mem_append_left _ h))))))) wkg_c_copyRow_Ca) rfl rfl rfl (by decide +kernel) ⟨Nat.le_of_ble_eq_true rfl, Nat.le_of_ble_eq_true rfl⟩) ⟨fun a U g mk q => by obtain ⟨q0, q1, qP, qK, qD⟩ := q; exact ⟨q0, q1, qP, va_K.moved (u := U) (U := U.calling g mk a) (Vm.Alike.refl U.vm) qK, qD⟩, fun U hU hW => ⟨rfl, by rw [hU], by rw [hU]; exact hPc, va_K.moved hW.alike hK, hDc.weaken (fun _ _ _ _ => trivial)⟩⟩ rfl rfl hl.1 rfl (lv_room (Nat.le_of_ble_eq_true rfl)) dX12_copyValley_40 ⟨Nat.le_of_ble_eq_true rfl, Nat.le_of_ble_eq_true rfl⟩) hS (fun q _ h => hFc q h) hFc (fun u t H1 locs ht hvm gz10 hB hz1 hk1 hS => ?_)
  obtain ⟨pz12, hpz12, hP1⟩ := hB
  rw [ht] at hP1
  obtain ⟨hP, hD⟩ := w_callR hP hD hk1 hP1 [3] rfl rfl (fun _ h => absurd h List.not_mem_nil) rfl [none, none, none, some 0, none, none, none] rfl rfl
  clear hPc hC hDc hFc hk1 hP1
  generalize H1 = H at hP hS ⊢
  have hP : va_P (dC, dI) vwCl (List.flatten [(wmLi qLi k az3), (wmHa qHa k hz6), (wmBr qBr k az9), (wmCa qCa k pz12), (wmWa qWa k jWa), (wmFr qFr k aFr), (wmAc qAc k iAc)] ++ List.flatten [(wMO qO k widthO manyO cellsO movedO tapeO (qLi 0) (qHa 0) (qBr 0) (qCa 0) (qWa 0) (qFr 0) (qAc 0) isKeptO loadNowO byNowO rowO memoryO whoseO deepNowO brokenByO brokenAtO goesByO comesToO sagMoreO creakOfO wipedByO deepAtO sagAtO loadAtO orderRowO oftenO lossOneO lossOtherO vO tO mO gO)]) H := hP
  have hD : va_D A (List.flatten [(wmLi qLi k az3), (wmHa qHa k hz6), (wmBr qBr k az9), (wmCa qCa k pz12), (wmWa qWa k jWa), (wmFr qFr k aFr), (wmAc qAc k iAc)] ++ List.flatten [(wMO qO k widthO manyO cellsO movedO tapeO (qLi 0) (qHa 0) (qBr 0) (qCa 0) (qWa 0) (qFr 0) (qAc 0) isKeptO loadNowO byNowO rowO memoryO whoseO deepNowO brokenByO brokenAtO goesByO comesToO sagMoreO creakOfO wipedByO deepAtO sagAtO loadAtO orderRowO oftenO lossOneO lossOtherO vO tO mO gO)]) := hD
  refine W.widen (k := 0) (n := 0) (Nat.le_refl 0) (Nat.le_refl 0) ?_
  refine lv_aload_n hx hb dX12_copyValley_43 rfl (lv_at hl 0 rfl) ?_
  refine va_get (D := (dC, dI)) (ci := 12) (v := .ref (qWa 0)) (C := RX12) (T := TX12) (N := 59) hx hb hts (fun w h => List.mem_cons_of_mem _ (List.mem_append_right _ (List.mem_append_left _ h))) hown hK hP 7 rfl rfl 20 (by decide) (hts (.fieldLink RX12 43 "SagMemoryModel" "ward" "[I") (wl_mem 7 rfl)) (fun _ h9 => h9) rfl dX12_copyValley_44 ?_
  refine lv_bipush (v := 15) hx hb dX12_copyValley_47 (by decide) ?_
  refine lv_iload_n hx hb dX12_copyValley_49 rfl (lv_at hl 1 rfl) ?_
  refine lv_iload_n hx hb dX12_copyValley_50 rfl (lv_at hl 2 rfl) ?_
  have hPc := hP.sub (ws' := (List.flatten [(wmWa qWa k jWa)] ++ List.flatten ([] : List va_W))) [4] rfl
  have hC : [4].map (fun i => (List.flatten [(wmLi qLi k az3), (wmHa qHa k hz6), (wmBr qBr k az9), (wmCa qCa k pz12), (wmWa qWa k jWa), (wmFr qFr k aFr), (wmAc qAc k iAc)] ++ List.flatten [(wMO qO k widthO manyO cellsO movedO tapeO (qLi 0) (qHa 0) (qBr 0) (qCa 0) (qWa 0) (qFr 0) (qAc 0) isKeptO loadNowO byNowO rowO memoryO whoseO deepNowO brokenByO brokenAtO goesByO comesToO sagMoreO creakOfO wipedByO deepAtO sagAtO loadAtO orderRowO oftenO lossOneO lossOtherO vO tO mO gO)])[i]?) = (List.flatten [(wmWa qWa k jWa)] ++ List.flatten ([] : List va_W)).map some := rfl
  have hDc := hD.sub [4] (by decide) hC
  have hFc := va_free hD hS hA [4] hC
  refine va_callv (va_runS (As := [.ref (qWa 0), .int 15, .int p1, .int p2]) (rest := []) ⟨hx, hb, hml, hown, hts⟩ (c_copyRow_Wa l dC dI k H.size qWa jWa p1 p2 hjWa (by show 0 ≤ p1.toInt ∧ p1.toInt ≤ 4; omega) (by show 0 ≤ p2.toInt ∧ p2.toInt ≤ 4; omega)) (va_cwS 4 hts (gk_S (wl_mem 1 rfl) (wl_mem 2 rfl) (wl_mem 3 rfl) (fun w h => List.mem_cons_of_mem _ (List.mem_append_right _ (List.mem_append_right _ (List.mem_append_right _ (List.mem_append_right _ (List.mem_append_right _ (List.mem_append_right _ (List.mem_append_left _ h)))))))) wkg_c_copyRow_Wa) rfl rfl rfl (by decide +kernel) ⟨Nat.le_of_ble_eq_true rfl, Nat.le_of_ble_eq_true rfl⟩) ⟨fun a U g mk q => by obtain ⟨q0, q1, qP, qK, qD⟩ := q; exact ⟨q0, q1, qP, va_K.moved (u := U) (U := U.calling g mk a) (Vm.Alike.refl U.vm) qK, qD⟩, fun U hU hW => ⟨rfl, by rw [hU], by rw [hU]; exact hPc, va_K.moved hW.alike hK, hDc.weaken (fun _ _ _ _ => trivial)⟩⟩ rfl rfl hl.1 rfl (lv_room (Nat.le_of_ble_eq_true rfl)) dX12_copyValley_51 ⟨Nat.le_of_ble_eq_true rfl, Nat.le_of_ble_eq_true rfl⟩) hS (fun q _ h => hFc q h) hFc (fun u t H1 locs ht hvm gz13 hB hz1 hk1 hS => ?_)
  obtain ⟨jz15, hjz15, hP1⟩ := hB
  rw [ht] at hP1
  obtain ⟨hP, hD⟩ := w_callR hP hD hk1 hP1 [4] rfl rfl (fun _ h => absurd h List.not_mem_nil) rfl [none, none, none, none, some 0, none, none] rfl rfl
  clear hPc hC hDc hFc hk1 hP1
  generalize H1 = H at hP hS ⊢
  have hP : va_P (dC, dI) vwCl (List.flatten [(wmLi qLi k az3), (wmHa qHa k hz6), (wmBr qBr k az9), (wmCa qCa k pz12), (wmWa qWa k jz15), (wmFr qFr k aFr), (wmAc qAc k iAc)] ++ List.flatten [(wMO qO k widthO manyO cellsO movedO tapeO (qLi 0) (qHa 0) (qBr 0) (qCa 0) (qWa 0) (qFr 0) (qAc 0) isKeptO loadNowO byNowO rowO memoryO whoseO deepNowO brokenByO brokenAtO goesByO comesToO sagMoreO creakOfO wipedByO deepAtO sagAtO loadAtO orderRowO oftenO lossOneO lossOtherO vO tO mO gO)]) H := hP
  have hD : va_D A (List.flatten [(wmLi qLi k az3), (wmHa qHa k hz6), (wmBr qBr k az9), (wmCa qCa k pz12), (wmWa qWa k jz15), (wmFr qFr k aFr), (wmAc qAc k iAc)] ++ List.flatten [(wMO qO k widthO manyO cellsO movedO tapeO (qLi 0) (qHa 0) (qBr 0) (qCa 0) (qWa 0) (qFr 0) (qAc 0) isKeptO loadNowO byNowO rowO memoryO whoseO deepNowO brokenByO brokenAtO goesByO comesToO sagMoreO creakOfO wipedByO deepAtO sagAtO loadAtO orderRowO oftenO lossOneO lossOtherO vO tO mO gO)]) := hD
  refine W.widen (k := 0) (n := 0) (Nat.le_refl 0) (Nat.le_refl 0) ?_
  refine lv_aload_n hx hb dX12_copyValley_54 rfl (lv_at hl 0 rfl) ?_
  refine va_get (D := (dC, dI)) (ci := 12) (v := .ref (qFr 0)) (C := RX12) (T := TX12) (N := 59) hx hb hts (fun w h => List.mem_cons_of_mem _ (List.mem_append_right _ (List.mem_append_left _ h))) hown hK hP 7 rfl rfl 21 (by decide) (hts (.fieldLink RX12 46 "SagMemoryModel" "frostAt" "[I") (wl_mem 8 rfl)) (fun _ h9 => h9) rfl dX12_copyValley_55 ?_
  refine lv_iconst (v := 4) hx hb dX12_copyValley_58 (by decide) ?_
  refine lv_iload_n hx hb dX12_copyValley_59 rfl (lv_at hl 1 rfl) ?_
  refine lv_iload_n hx hb dX12_copyValley_60 rfl (lv_at hl 2 rfl) ?_
  have hPc := hP.sub (ws' := (List.flatten [(wmFr qFr k aFr)] ++ List.flatten ([] : List va_W))) [5] rfl
  have hC : [5].map (fun i => (List.flatten [(wmLi qLi k az3), (wmHa qHa k hz6), (wmBr qBr k az9), (wmCa qCa k pz12), (wmWa qWa k jz15), (wmFr qFr k aFr), (wmAc qAc k iAc)] ++ List.flatten [(wMO qO k widthO manyO cellsO movedO tapeO (qLi 0) (qHa 0) (qBr 0) (qCa 0) (qWa 0) (qFr 0) (qAc 0) isKeptO loadNowO byNowO rowO memoryO whoseO deepNowO brokenByO brokenAtO goesByO comesToO sagMoreO creakOfO wipedByO deepAtO sagAtO loadAtO orderRowO oftenO lossOneO lossOtherO vO tO mO gO)])[i]?) = (List.flatten [(wmFr qFr k aFr)] ++ List.flatten ([] : List va_W)).map some := rfl
  have hDc := hD.sub [5] (by decide) hC
  have hFc := va_free hD hS hA [5] hC
  refine va_callv (va_runS (As := [.ref (qFr 0), .int 4, .int p1, .int p2]) (rest := []) ⟨hx, hb, hml, hown, hts⟩ (c_copyRow_Fr l dC dI k H.size qFr aFr p1 p2 (by show 0 ≤ p1.toInt ∧ p1.toInt ≤ 4; omega) (by show 0 ≤ p2.toInt ∧ p2.toInt ≤ 4; omega)) (va_cwS 4 hts (gk_S (wl_mem 1 rfl) (wl_mem 2 rfl) (wl_mem 3 rfl) (fun w h => List.mem_cons_of_mem _ (List.mem_append_right _ (List.mem_append_right _ (List.mem_append_right _ (List.mem_append_right _ (List.mem_append_right _ (List.mem_append_right _ (List.mem_append_right _ (List.mem_append_left _ h))))))))) wkg_c_copyRow_Fr) rfl rfl rfl (by decide +kernel) ⟨Nat.le_of_ble_eq_true rfl, Nat.le_of_ble_eq_true rfl⟩) ⟨fun a U g mk q => by obtain ⟨q0, q1, qP, qK, qD⟩ := q; exact ⟨q0, q1, qP, va_K.moved (u := U) (U := U.calling g mk a) (Vm.Alike.refl U.vm) qK, qD⟩, fun U hU hW => ⟨rfl, by rw [hU], by rw [hU]; exact hPc, va_K.moved hW.alike hK, hDc.weaken (fun _ _ _ _ => trivial)⟩⟩ rfl rfl hl.1 rfl (lv_room (Nat.le_of_ble_eq_true rfl)) dX12_copyValley_61 ⟨Nat.le_of_ble_eq_true rfl, Nat.le_of_ble_eq_true rfl⟩) hS (fun q _ h => hFc q h) hFc (fun u t H1 locs ht hvm gz16 hB hz1 hk1 hS => ?_)
  obtain ⟨az18, hP1⟩ := hB
  rw [ht] at hP1
  obtain ⟨hP, hD⟩ := w_callR hP hD hk1 hP1 [5] rfl rfl (fun _ h => absurd h List.not_mem_nil) rfl [none, none, none, none, none, some 0, none] rfl rfl
  clear hPc hC hDc hFc hk1 hP1
  generalize H1 = H at hP hS ⊢
  have hP : va_P (dC, dI) vwCl (List.flatten [(wmLi qLi k az3), (wmHa qHa k hz6), (wmBr qBr k az9), (wmCa qCa k pz12), (wmWa qWa k jz15), (wmFr qFr k az18), (wmAc qAc k iAc)] ++ List.flatten [(wMO qO k widthO manyO cellsO movedO tapeO (qLi 0) (qHa 0) (qBr 0) (qCa 0) (qWa 0) (qFr 0) (qAc 0) isKeptO loadNowO byNowO rowO memoryO whoseO deepNowO brokenByO brokenAtO goesByO comesToO sagMoreO creakOfO wipedByO deepAtO sagAtO loadAtO orderRowO oftenO lossOneO lossOtherO vO tO mO gO)]) H := hP
  have hD : va_D A (List.flatten [(wmLi qLi k az3), (wmHa qHa k hz6), (wmBr qBr k az9), (wmCa qCa k pz12), (wmWa qWa k jz15), (wmFr qFr k az18), (wmAc qAc k iAc)] ++ List.flatten [(wMO qO k widthO manyO cellsO movedO tapeO (qLi 0) (qHa 0) (qBr 0) (qCa 0) (qWa 0) (qFr 0) (qAc 0) isKeptO loadNowO byNowO rowO memoryO whoseO deepNowO brokenByO brokenAtO goesByO comesToO sagMoreO creakOfO wipedByO deepAtO sagAtO loadAtO orderRowO oftenO lossOneO lossOtherO vO tO mO gO)]) := hD
  refine W.widen (k := 0) (n := 0) (Nat.le_refl 0) (Nat.le_refl 0) ?_
  refine lv_aload_n hx hb dX12_copyValley_64 rfl (lv_at hl 0 rfl) ?_
  refine va_get (D := (dC, dI)) (ci := 12) (v := .ref (qAc 0)) (C := RX12) (T := TX12) (N := 59) hx hb hts (fun w h => List.mem_cons_of_mem _ (List.mem_append_right _ (List.mem_append_left _ h))) hown hK hP 7 rfl rfl 22 (by decide) (hts (.fieldLink RX12 49 "SagMemoryModel" "act" "[I") (wl_mem 9 rfl)) (fun _ h9 => h9) rfl dX12_copyValley_65 ?_
  refine lv_bipush (v := 90) hx hb dX12_copyValley_68 (by decide) ?_
  refine lv_iload_n hx hb dX12_copyValley_70 rfl (lv_at hl 1 rfl) ?_
  refine lv_iload_n hx hb dX12_copyValley_71 rfl (lv_at hl 2 rfl) ?_
  have hPc := hP.sub (ws' := (List.flatten [(wmAc qAc k iAc)] ++ List.flatten ([] : List va_W))) [6] rfl
  have hC : [6].map (fun i => (List.flatten [(wmLi qLi k az3), (wmHa qHa k hz6), (wmBr qBr k az9), (wmCa qCa k pz12), (wmWa qWa k jz15), (wmFr qFr k az18), (wmAc qAc k iAc)] ++ List.flatten [(wMO qO k widthO manyO cellsO movedO tapeO (qLi 0) (qHa 0) (qBr 0) (qCa 0) (qWa 0) (qFr 0) (qAc 0) isKeptO loadNowO byNowO rowO memoryO whoseO deepNowO brokenByO brokenAtO goesByO comesToO sagMoreO creakOfO wipedByO deepAtO sagAtO loadAtO orderRowO oftenO lossOneO lossOtherO vO tO mO gO)])[i]?) = (List.flatten [(wmAc qAc k iAc)] ++ List.flatten ([] : List va_W)).map some := rfl
  have hDc := hD.sub [6] (by decide) hC
  have hFc := va_free hD hS hA [6] hC
  refine va_callv (va_runS (As := [.ref (qAc 0), .int 90, .int p1, .int p2]) (rest := []) ⟨hx, hb, hml, hown, hts⟩ (c_copyRow_Ac l dC dI k H.size qAc iAc p1 p2 hiAc (by show 0 ≤ p1.toInt ∧ p1.toInt ≤ 4; omega) (by show 0 ≤ p2.toInt ∧ p2.toInt ≤ 4; omega)) (va_cwS 4 hts (gk_S (wl_mem 1 rfl) (wl_mem 2 rfl) (wl_mem 3 rfl) (fun w h => List.mem_cons_of_mem _ (List.mem_append_right _ (List.mem_append_right _ (List.mem_append_right _ (List.mem_append_right _ (List.mem_append_right _ (List.mem_append_right _ (List.mem_append_right _ (List.mem_append_right _ (List.mem_append_left _ h)))))))))) wkg_c_copyRow_Ac) rfl rfl rfl (by decide +kernel) ⟨Nat.le_of_ble_eq_true rfl, Nat.le_of_ble_eq_true rfl⟩) ⟨fun a U g mk q => by obtain ⟨q0, q1, qP, qK, qD⟩ := q; exact ⟨q0, q1, qP, va_K.moved (u := U) (U := U.calling g mk a) (Vm.Alike.refl U.vm) qK, qD⟩, fun U hU hW => ⟨rfl, by rw [hU], by rw [hU]; exact hPc, va_K.moved hW.alike hK, hDc.weaken (fun _ _ _ _ => trivial)⟩⟩ rfl rfl hl.1 rfl (lv_room (Nat.le_of_ble_eq_true rfl)) dX12_copyValley_72 ⟨Nat.le_of_ble_eq_true rfl, Nat.le_of_ble_eq_true rfl⟩) hS (fun q _ h => hFc q h) hFc (fun u t H1 locs ht hvm gz19 hB hz1 hk1 hS => ?_)
  obtain ⟨iz21, hiz21, hP1⟩ := hB
  rw [ht] at hP1
  obtain ⟨hP, hD⟩ := w_callR hP hD hk1 hP1 [6] rfl rfl (fun _ h => absurd h List.not_mem_nil) rfl [none, none, none, none, none, none, some 0] rfl rfl
  clear hPc hC hDc hFc hk1 hP1
  generalize H1 = H at hP hS ⊢
  have hP : va_P (dC, dI) vwCl (List.flatten [(wmLi qLi k az3), (wmHa qHa k hz6), (wmBr qBr k az9), (wmCa qCa k pz12), (wmWa qWa k jz15), (wmFr qFr k az18), (wmAc qAc k iz21)] ++ List.flatten [(wMO qO k widthO manyO cellsO movedO tapeO (qLi 0) (qHa 0) (qBr 0) (qCa 0) (qWa 0) (qFr 0) (qAc 0) isKeptO loadNowO byNowO rowO memoryO whoseO deepNowO brokenByO brokenAtO goesByO comesToO sagMoreO creakOfO wipedByO deepAtO sagAtO loadAtO orderRowO oftenO lossOneO lossOtherO vO tO mO gO)]) H := hP
  have hD : va_D A (List.flatten [(wmLi qLi k az3), (wmHa qHa k hz6), (wmBr qBr k az9), (wmCa qCa k pz12), (wmWa qWa k jz15), (wmFr qFr k az18), (wmAc qAc k iz21)] ++ List.flatten [(wMO qO k widthO manyO cellsO movedO tapeO (qLi 0) (qHa 0) (qBr 0) (qCa 0) (qWa 0) (qFr 0) (qAc 0) isKeptO loadNowO byNowO rowO memoryO whoseO deepNowO brokenByO brokenAtO goesByO comesToO sagMoreO creakOfO wipedByO deepAtO sagAtO loadAtO orderRowO oftenO lossOneO lossOtherO vO tO mO gO)]) := hD
  refine W.widen (k := 0) (n := 0) (Nat.le_refl 0) (Nat.le_refl 0) ?_
  rw [hQ]
  exact W.vret hx hb hr (fun t ht hW => ⟨⟨(), rfl, trivial, az3, hz6, az9, pz12, jz15, az18, iz21, hhz6, hpz12, hjz15, hiz21, by rw [ht]; exact hP⟩, hS.F ht⟩) hS.2.2 dX12_copyValley_75
def wk_c_X12_valley : List Cond := .code yX12_valley cX12_valley 1 (some .int) :: ([.fieldLink RX12 116 "SagMemoryModel" "thrown" "I", .methodLink RX12 251 yX12_clears, .instanceMethod yX12_clears, .selects RX12 yX12_clears yX12_clears, .initialized RX12, .methodLink RX12 254 yX12_begins, .instanceMethod yX12_begins, .selects RX12 yX12_begins yX12_begins, .methodLink RX12 257 yX12_isGood, .instanceMethod yX12_isGood, .selects RX12 yX12_isGood yX12_isGood, .fieldLink RX12 157 "SagMemoryModel" "token" "I", .fieldLink RX12 31 "SagMemoryModel" "lines" "[I", .methodLink RX12 267 yX12_lineHere, .instanceMethod yX12_lineHere, .selects RX12 yX12_lineHere yX12_lineHere, .constantLong RX12 261 (316452499), .methodLink RX12 187 yX12_asks, .instanceMethod yX12_asks, .selects RX12 yX12_asks yX12_asks, .constantLong RX12 263 (8798), .methodLink RX12 204 yX12_number_, .instanceMethod yX12_number_, .selects RX12 yX12_number_ yX12_number_, .methodLink RX12 209 yX12_tells, .instanceMethod yX12_tells, .selects RX12 yX12_tells yX12_tells, .constantLong RX12 246 (3554408), .constantLong RX12 265 (298288), .methodLink RX12 270 yX12_ends, .instanceMethod yX12_ends, .selects RX12 yX12_ends yX12_ends, .methodLink RX12 273 yX12_isOver, .instanceMethod yX12_isOver, .selects RX12 yX12_isOver yX12_isOver, .fieldLink RX12 168 "SagMemoryModel" "bad" "I", .methodLink RX12 276 yX12_copyValley, .instanceMethod yX12_copyValley, .selects RX12 yX12_copyValley yX12_copyValley] ++ (wsX120 ++ (wk_c_X12_clears ++ (wk_c_X12_begins ++ (wk_c_X12_isGood ++ (wk_c_X12_lineHere ++ (wk_c_X12_asks ++ (wk_c_X12_number_ ++ (wk_c_tells_0 ++ (wk_c_tells_1 ++ (wk_c_tells_2 ++ (wk_c_X12_ends ++ (wk_c_X12_isOver ++ (wk_c_X12_copyValley ++ []))))))))))))))
theorem wkg_c_X12_valley : wk_c_X12_valley.all goodWord = true := by decide +kernel
set_option maxHeartbeats 4000000 in
set_option maxRecDepth 100000 in
theorem c_X12_valley (l : Launch) (dC : Nat → ClassId) (dI : Nat → Nat → Nat) (k : Nat → ClassId) (sz : Nat) (qO : Nat → Nat) (widthO : Nat) (manyO : Nat) (cellsO : Nat) (movedO : Nat) (isKeptO : Nat) (loadNowO : Nat) (byNowO : Nat) (rowO : Nat) (memoryO : Nat) (whoseO : Nat) (deepNowO : Nat) (brokenByO : Nat) (brokenAtO : Nat) (goesByO : Nat) (comesToO : Nat) (sagMoreO : Nat) (creakOfO : Nat) (wipedByO : Nat) (deepAtO : Nat) (sagAtO : Nat) (loadAtO : Nat) (orderRowO : Nat) (oftenO : Nat) (lossOneO : Nat) (lossOtherO : Nat) (vO : Nat → Int32) (tO : Nat → Int32) (mO : Nat → Int32) (gO : Nat → Int64) (qTa : Nat → Nat) (aTa : Nat → Nat → Int32) (qLi : Nat → Nat) (aLi : Nat → Nat → Int32) (qHa : Nat → Nat) (hHa : Nat → Nat → Int32) (qBr : Nat → Nat) (aBr : Nat → Nat → Int32) (qCa : Nat → Nat) (pCa : Nat → Nat → Int32) (qWa : Nat → Nat) (jWa : Nat → Nat → Int32) (qFr : Nat → Nat) (aFr : Nat → Nat → Int32) (qAc : Nat → Nat) (iAc : Nat → Nat → Int32) (htO : Rg 0 700 tO) (hmO : Rg (-1) 127 mO) (hhHa : Pa_h hHa) (hpCa : Pa_p pCa) (hjWa : Pa_j jWa) (hiAc : Pa_i iAc) : Met l yX12_valley wk_c_X12_valley ({ frames := 7, cells := 0, slots := 0, locals := 153 }) (va_Pc [.ref (qO 0)] (fun U => U.heap.size = sz ∧ va_P (dC, dI) vwCl (List.flatten [(wMO qO k widthO manyO cellsO movedO (qTa 0) (qLi 0) (qHa 0) (qBr 0) (qCa 0) (qWa 0) (qFr 0) (qAc 0) isKeptO loadNowO byNowO rowO memoryO whoseO deepNowO brokenByO brokenAtO goesByO comesToO sagMoreO creakOfO wipedByO deepAtO sagAtO loadAtO orderRowO oftenO lossOneO lossOtherO vO tO mO gO), (wmLi qLi k aLi), (wmHa qHa k hHa), (wmBr qBr k aBr), (wmCa qCa k pCa), (wmWa qWa k jWa), (wmFr qFr k aFr), (wmAc qAc k iAc)] ++ List.flatten [(wmTa qTa k aTa)]) U.heap ∧ va_K (dC, dI) vwCl (tK k) U ∧ va_D (fun _ => True) (List.flatten [(wMO qO k widthO manyO cellsO movedO (qTa 0) (qLi 0) (qHa 0) (qBr 0) (qCa 0) (qWa 0) (qFr 0) (qAc 0) isKeptO loadNowO byNowO rowO memoryO whoseO deepNowO brokenByO brokenAtO goesByO comesToO sagMoreO creakOfO wipedByO deepAtO sagAtO loadAtO orderRowO oftenO lossOneO lossOtherO vO tO mO gO), (wmLi qLi k aLi), (wmHa qHa k hHa), (wmBr qBr k aBr), (wmCa qCa k pCa), (wmWa qWa k jWa), (wmFr qFr k aFr), (wmAc qAc k iAc)] ++ List.flatten [(wmTa qTa k aTa)]))) (va_Qi (fun (r : Int32) (_ : Unit) => True) (fun (_ : Unit) (t : State) => ∃ (vO' : Nat → Int32) (tO' : Nat → Int32) (mO' : Nat → Int32) (gO' : Nat → Int64) (aLi' : Nat → Nat → Int32) (hHa' : Nat → Nat → Int32) (aBr' : Nat → Nat → Int32) (pCa' : Nat → Nat → Int32) (jWa' : Nat → Nat → Int32) (aFr' : Nat → Nat → Int32) (iAc' : Nat → Nat → Int32), Rg 0 700 tO' ∧ Rg (-1) 127 mO' ∧ Pa_h hHa' ∧ Pa_p pCa' ∧ Pa_j jWa' ∧ Pa_i iAc' ∧ va_P (dC, dI) vwCl (List.flatten [(wMO qO k widthO manyO cellsO movedO (qTa 0) (qLi 0) (qHa 0) (qBr 0) (qCa 0) (qWa 0) (qFr 0) (qAc 0) isKeptO loadNowO byNowO rowO memoryO whoseO deepNowO brokenByO brokenAtO goesByO comesToO sagMoreO creakOfO wipedByO deepAtO sagAtO loadAtO orderRowO oftenO lossOneO lossOtherO vO' tO' mO' gO'), (wmLi qLi k aLi'), (wmHa qHa k hHa'), (wmBr qBr k aBr'), (wmCa qCa k pCa'), (wmWa qWa k jWa'), (wmFr qFr k aFr'), (wmAc qAc k iAc')] ++ List.flatten [(wmTa qTa k aTa)]) t.heap) (va_A (List.flatten [(wMO qO k widthO manyO cellsO movedO (qTa 0) (qLi 0) (qHa 0) (qBr 0) (qCa 0) (qWa 0) (qFr 0) (qAc 0) isKeptO loadNowO byNowO rowO memoryO whoseO deepNowO brokenByO brokenAtO goesByO comesToO sagMoreO creakOfO wipedByO deepAtO sagAtO loadAtO orderRowO oftenO lossOneO lossOtherO vO tO mO gO), (wmLi qLi k aLi), (wmHa qHa k hHa), (wmBr qBr k aBr), (wmCa qCa k pCa), (wmWa qWa k jWa), (wmFr qFr k aFr), (wmAc qAc k iAc)] ++ List.flatten [(wmTa qTa k aTa)]) sz)) 0 0 (va_A (List.flatten [(wMO qO k widthO manyO cellsO movedO (qTa 0) (qLi 0) (qHa 0) (qBr 0) (qCa 0) (qWa 0) (qFr 0) (qAc 0) isKeptO loadNowO byNowO rowO memoryO whoseO deepNowO brokenByO brokenAtO goesByO comesToO sagMoreO creakOfO wipedByO deepAtO sagAtO loadAtO orderRowO oftenO lossOneO lossOtherO vO tO mO gO), (wmLi qLi k aLi), (wmHa qHa k hHa), (wmBr qBr k aBr), (wmCa qCa k pCa), (wmWa qWa k jWa), (wmFr qFr k aFr), (wmAc qAc k iAc)] ++ List.flatten [(wmTa qTa k aTa)]) sz) := by
  refine Met.ofW (cc := cX12_valley) (maxL := 1) (ret := (some .int)) (by decide) rfl ?_
  intro p e s m args below meth c s₁ B hml hv
  obtain ⟨rfl, hsz, hP, hK, hD0⟩ := hv
  have hx := B.exec
  have hb := B.bytes
  have hr := B.returns
  have hts := atoms_spec (ws := wk_c_X12_valley) B.pre
  have hown : s.vm.findClass RX12 = some m.cls := findClass_of_methodNamed B.named
  have hlocks := B.notSynchronized
  subst hsz
  have hD := hD0.self (sz := s.heap.size)
  generalize hAe : va_A (List.flatten [(wMO qO k widthO manyO cellsO movedO (qTa 0) (qLi 0) (qHa 0) (qBr 0) (qCa 0) (qWa 0) (qFr 0) (qAc 0) isKeptO loadNowO byNowO rowO memoryO whoseO deepNowO brokenByO brokenAtO goesByO comesToO sagMoreO creakOfO wipedByO deepAtO sagAtO loadAtO orderRowO oftenO lossOneO lossOtherO vO tO mO gO), (wmLi qLi k aLi), (wmHa qHa k hHa), (wmBr qBr k aBr), (wmCa qCa k pCa), (wmWa qWa k jWa), (wmFr qFr k aFr), (wmAc qAc k iAc)] ++ List.flatten [(wmTa qTa k aTa)]) s.heap.size = A at hD ⊢
  have hA : ∀ q : Nat, s.heap.size ≤ q → A q := fun q h => by rw [← hAe]; exact Or.inr h
  have hS : va_S A s.heap s.heap [] := va_S.rf
  have hP : va_P (dC, dI) vwCl (List.flatten [(wMO qO k widthO manyO cellsO movedO (qTa 0) (qLi 0) (qHa 0) (qBr 0) (qCa 0) (qWa 0) (qFr 0) (qAc 0) isKeptO loadNowO byNowO rowO memoryO whoseO deepNowO brokenByO brokenAtO goesByO comesToO sagMoreO creakOfO wipedByO deepAtO sagAtO loadAtO orderRowO oftenO lossOneO lossOtherO vO tO mO gO), (wmLi qLi k aLi), (wmHa qHa k hHa), (wmBr qBr k aBr), (wmCa qCa k pCa), (wmWa qWa k jWa), (wmFr qFr k aFr), (wmAc qAc k iAc)] ++ List.flatten [(wmTa qTa k aTa)]) s.heap := hP
  have hl := lv_entry ([.ref (qO 0)]) (n := 1) (Nat.le_of_ble_eq_true rfl)
  rw [lg_entry_eq]
  generalize (lg_sl ([.ref (qO 0)]) ++ List.replicate (1 - (lg_sl ([.ref (qO 0)])).length) Slot.unset).toArray = ls at hl ⊢
  have hl : lv_has ls 1 [(0, .ref (qO 0))] := hl
  refine w_gen (fun Q hQ => ?_)
  refine lv_aload_n hx hb dX12_valley_0 rfl (lv_at hl 0 rfl) ?_
  refine lv_iconst (v := 0) hx hb dX12_valley_1 (by decide) ?_
  refine va_put (D := (dC, dI)) (ci := 12) (v := .int 0) (ty := .int) (C := RX12) (T := TX12) (N := 59) hx hb hts (fun w h => List.mem_cons_of_mem _ (List.mem_append_right _ (List.mem_append_left _ h))) tyX12 tyX12_ok nmX12 hown hK hP hD hS 0 rfl rfl 0 (by decide) (hts (.fieldLink RX12 116 "SagMemoryModel" "thrown" "I") (wl_mem 0 rfl)) (fun _ h9 => h9) rfl (by decide +kernel) rfl rfl (Nat.le_of_ble_eq_true rfl) dX12_valley_2 (fun H locs hP hD hS => ?_)
  have hP : va_P (dC, dI) vwCl (List.flatten [(wMO qO k widthO manyO cellsO movedO (qTa 0) (qLi 0) (qHa 0) (qBr 0) (qCa 0) (qWa 0) (qFr 0) (qAc 0) isKeptO loadNowO byNowO rowO memoryO whoseO deepNowO brokenByO brokenAtO goesByO comesToO sagMoreO creakOfO wipedByO deepAtO sagAtO loadAtO orderRowO oftenO lossOneO lossOtherO (va_up vO 0 (0 : Int32)) tO mO gO), (wmLi qLi k aLi), (wmHa qHa k hHa), (wmBr qBr k aBr), (wmCa qCa k pCa), (wmWa qWa k jWa), (wmFr qFr k aFr), (wmAc qAc k iAc)] ++ List.flatten [(wmTa qTa k aTa)]) H := hP
  have hD : va_D A (List.flatten [(wMO qO k widthO manyO cellsO movedO (qTa 0) (qLi 0) (qHa 0) (qBr 0) (qCa 0) (qWa 0) (qFr 0) (qAc 0) isKeptO loadNowO byNowO rowO memoryO whoseO deepNowO brokenByO brokenAtO goesByO comesToO sagMoreO creakOfO wipedByO deepAtO sagAtO loadAtO orderRowO oftenO lossOneO lossOtherO (va_up vO 0 (0 : Int32)) tO mO gO), (wmLi qLi k aLi), (wmHa qHa k hHa), (wmBr qBr k aBr), (wmCa qCa k pCa), (wmWa qWa k jWa), (wmFr qFr k aFr), (wmAc qAc k iAc)] ++ List.flatten [(wmTa qTa k aTa)]) := hD
  refine lv_aload_n hx hb dX12_valley_5 rfl (lv_at hl 0 rfl) ?_
  have hPc := hP.sub (ws' := (List.flatten [(wmLi qLi k aLi), (wmHa qHa k hHa)] ++ List.flatten [(wMO qO k widthO manyO cellsO movedO (qTa 0) (qLi 0) (qHa 0) (qBr 0) (qCa 0) (qWa 0) (qFr 0) (qAc 0) isKeptO loadNowO byNowO rowO memoryO whoseO deepNowO brokenByO brokenAtO goesByO comesToO sagMoreO creakOfO wipedByO deepAtO sagAtO loadAtO orderRowO oftenO lossOneO lossOtherO (va_up vO 0 (0 : Int32)) tO mO gO)])) [1, 2, 0] rfl
  have hC : [1, 2, 0].map (fun i => (List.flatten [(wMO qO k widthO manyO cellsO movedO (qTa 0) (qLi 0) (qHa 0) (qBr 0) (qCa 0) (qWa 0) (qFr 0) (qAc 0) isKeptO loadNowO byNowO rowO memoryO whoseO deepNowO brokenByO brokenAtO goesByO comesToO sagMoreO creakOfO wipedByO deepAtO sagAtO loadAtO orderRowO oftenO lossOneO lossOtherO (va_up vO 0 (0 : Int32)) tO mO gO), (wmLi qLi k aLi), (wmHa qHa k hHa), (wmBr qBr k aBr), (wmCa qCa k pCa), (wmWa qWa k jWa), (wmFr qFr k aFr), (wmAc qAc k iAc)] ++ List.flatten [(wmTa qTa k aTa)])[i]?) = (List.flatten [(wmLi qLi k aLi), (wmHa qHa k hHa)] ++ List.flatten [(wMO qO k widthO manyO cellsO movedO (qTa 0) (qLi 0) (qHa 0) (qBr 0) (qCa 0) (qWa 0) (qFr 0) (qAc 0) isKeptO loadNowO byNowO rowO memoryO whoseO deepNowO brokenByO brokenAtO goesByO comesToO sagMoreO creakOfO wipedByO deepAtO sagAtO loadAtO orderRowO oftenO lossOneO lossOtherO (va_up vO 0 (0 : Int32)) tO mO gO)]).map some := rfl
  have hDc := hD.sub [1, 2, 0] (by decide) hC
  have hFc := va_free hD hS hA [1, 2, 0] hC
  refine va_callv (va_runV (As := []) (rest := []) ⟨hx, hb, hml, hown, hts⟩ (c_X12_clears l dC dI k H.size qO widthO manyO cellsO movedO (qTa 0) (qBr 0) (qCa 0) (qWa 0) (qFr 0) (qAc 0) isKeptO loadNowO byNowO rowO memoryO whoseO deepNowO brokenByO brokenAtO goesByO comesToO sagMoreO creakOfO wipedByO deepAtO sagAtO loadAtO orderRowO oftenO lossOneO lossOtherO (va_up vO 0 (0 : Int32)) tO mO gO qLi aLi qHa hHa htO hmO hhHa) (cwV 0 hts (gk_V (wl_mem 1 rfl) (wl_mem 2 rfl) (wl_mem 3 rfl) (wl_mem 4 rfl) (fun w h => List.mem_cons_of_mem _ (List.mem_append_right _ (List.mem_append_right _ (List.mem_append_left _ h)))) wkg_c_X12_clears) rfl rfl rfl (by decide +kernel) ⟨Nat.le_of_ble_eq_true rfl, Nat.le_of_ble_eq_true rfl⟩) ⟨fun a U g mk q => by obtain ⟨q0, q1, qP, qK, qD⟩ := q; exact ⟨q0, q1, qP, va_K.moved (u := U) (U := U.calling g mk a) (Vm.Alike.refl U.vm) qK, qD⟩, va_recv hK hPc (ci := 12) (q0 := 2) rfl rfl, fun U hU hW => ⟨rfl, by rw [hU], by rw [hU]; exact hPc, va_K.moved hW.alike hK, hDc.weaken (fun _ _ _ _ => trivial)⟩⟩ rfl rfl hl.1 rfl (lv_room (Nat.le_of_ble_eq_true rfl)) dX12_valley_6 ⟨Nat.le_of_ble_eq_true rfl, Nat.le_of_ble_eq_true rfl⟩) hS (fun q _ h => hFc q h) hFc (fun u t H1 locs ht hvm gz1 hB hz1 hk1 hS => ?_)
  obtain ⟨az3, hz4, hhz4, hP1⟩ := hB
  rw [ht] at hP1
  obtain ⟨hP, hD⟩ := w_callR hP hD hk1 hP1 [1, 2] rfl rfl (wk_memC [0] rfl) rfl [none, some 0, some 1, none, none, none, none, none] rfl rfl
  clear hPc hC hDc hFc hk1 hP1
  generalize H1 = H at hP hS ⊢
  have hP : va_P (dC, dI) vwCl (List.flatten [(wMO qO k widthO manyO cellsO movedO (qTa 0) (qLi 0) (qHa 0) (qBr 0) (qCa 0) (qWa 0) (qFr 0) (qAc 0) isKeptO loadNowO byNowO rowO memoryO whoseO deepNowO brokenByO brokenAtO goesByO comesToO sagMoreO creakOfO wipedByO deepAtO sagAtO loadAtO orderRowO oftenO lossOneO lossOtherO (va_up vO 0 (0 : Int32)) tO mO gO), (wmLi qLi k az3), (wmHa qHa k hz4), (wmBr qBr k aBr), (wmCa qCa k pCa), (wmWa qWa k jWa), (wmFr qFr k aFr), (wmAc qAc k iAc)] ++ List.flatten [(wmTa qTa k aTa)]) H := hP
  have hD : va_D A (List.flatten [(wMO qO k widthO manyO cellsO movedO (qTa 0) (qLi 0) (qHa 0) (qBr 0) (qCa 0) (qWa 0) (qFr 0) (qAc 0) isKeptO loadNowO byNowO rowO memoryO whoseO deepNowO brokenByO brokenAtO goesByO comesToO sagMoreO creakOfO wipedByO deepAtO sagAtO loadAtO orderRowO oftenO lossOneO lossOtherO (va_up vO 0 (0 : Int32)) tO mO gO), (wmLi qLi k az3), (wmHa qHa k hz4), (wmBr qBr k aBr), (wmCa qCa k pCa), (wmWa qWa k jWa), (wmFr qFr k aFr), (wmAc qAc k iAc)] ++ List.flatten [(wmTa qTa k aTa)]) := hD
  refine W.widen (k := 0) (n := 0) (Nat.le_refl 0) (Nat.le_refl 0) ?_
  refine lv_aload_n hx hb dX12_valley_9 rfl (lv_at hl 0 rfl) ?_
  have hPc := hP.sub (ws' := (List.flatten [(wMO qO k widthO manyO cellsO movedO (qTa 0) (qLi 0) (qHa 0) (qBr 0) (qCa 0) (qWa 0) (qFr 0) (qAc 0) isKeptO loadNowO byNowO rowO memoryO whoseO deepNowO brokenByO brokenAtO goesByO comesToO sagMoreO creakOfO wipedByO deepAtO sagAtO loadAtO orderRowO oftenO lossOneO lossOtherO (va_up vO 0 (0 : Int32)) tO mO gO)] ++ List.flatten [(wmTa qTa k aTa)])) [0, 8] rfl
  have hC : [0, 8].map (fun i => (List.flatten [(wMO qO k widthO manyO cellsO movedO (qTa 0) (qLi 0) (qHa 0) (qBr 0) (qCa 0) (qWa 0) (qFr 0) (qAc 0) isKeptO loadNowO byNowO rowO memoryO whoseO deepNowO brokenByO brokenAtO goesByO comesToO sagMoreO creakOfO wipedByO deepAtO sagAtO loadAtO orderRowO oftenO lossOneO lossOtherO (va_up vO 0 (0 : Int32)) tO mO gO), (wmLi qLi k az3), (wmHa qHa k hz4), (wmBr qBr k aBr), (wmCa qCa k pCa), (wmWa qWa k jWa), (wmFr qFr k aFr), (wmAc qAc k iAc)] ++ List.flatten [(wmTa qTa k aTa)])[i]?) = (List.flatten [(wMO qO k widthO manyO cellsO movedO (qTa 0) (qLi 0) (qHa 0) (qBr 0) (qCa 0) (qWa 0) (qFr 0) (qAc 0) isKeptO loadNowO byNowO rowO memoryO whoseO deepNowO brokenByO brokenAtO goesByO comesToO sagMoreO creakOfO wipedByO deepAtO sagAtO loadAtO orderRowO oftenO lossOneO lossOtherO (va_up vO 0 (0 : Int32)) tO mO gO)] ++ List.flatten [(wmTa qTa k aTa)]).map some := rfl
  have hDc := hD.sub [0, 8] (by decide) hC
  have hFc := va_free hD hS hA [0, 8] hC
  refine va_callv (va_runV (As := []) (rest := []) ⟨hx, hb, hml, hown, hts⟩ (c_X12_begins l dC dI k H.size qO widthO manyO cellsO movedO (qLi 0) (qHa 0) (qBr 0) (qCa 0) (qWa 0) (qFr 0) (qAc 0) isKeptO loadNowO byNowO rowO memoryO whoseO deepNowO brokenByO brokenAtO goesByO comesToO sagMoreO creakOfO wipedByO deepAtO sagAtO loadAtO orderRowO oftenO lossOneO lossOtherO (va_up vO 0 (0 : Int32)) tO mO gO qTa aTa htO hmO) (cwV 0 hts (gk_V (wl_mem 5 rfl) (wl_mem 6 rfl) (wl_mem 7 rfl) (wl_mem 4 rfl) (fun w h => List.mem_cons_of_mem _ (List.mem_append_right _ (List.mem_append_right _ (List.mem_append_right _ (List.mem_append_left _ h))))) wkg_c_X12_begins) rfl rfl rfl (by decide +kernel) ⟨Nat.le_of_ble_eq_true rfl, Nat.le_of_ble_eq_true rfl⟩) ⟨fun a U g mk q => by obtain ⟨q0, q1, qP, qK, qD⟩ := q; exact ⟨q0, q1, qP, va_K.moved (u := U) (U := U.calling g mk a) (Vm.Alike.refl U.vm) qK, qD⟩, va_recv hK hPc (ci := 12) (q0 := 0) rfl rfl, fun U hU hW => ⟨rfl, by rw [hU], by rw [hU]; exact hPc, va_K.moved hW.alike hK, hDc.weaken (fun _ _ _ _ => trivial)⟩⟩ rfl rfl hl.1 rfl (lv_room (Nat.le_of_ble_eq_true rfl)) dX12_valley_10 ⟨Nat.le_of_ble_eq_true rfl, Nat.le_of_ble_eq_true rfl⟩) hS (fun q _ h => hFc q h) hFc (fun u t H1 locs ht hvm gz5 hB hz1 hk1 hS => ?_)
  obtain ⟨vz7, tz8, mz9, gz10, htz8, hmz9, pz11, pz12, hP1⟩ := hB
  rw [ht] at hP1
  obtain ⟨hP, hD⟩ := w_callR hP hD hk1 hP1 [0] rfl rfl (wk_memC [8] rfl) rfl [some 0, none, none, none, none, none, none, none] rfl rfl
  clear hPc hC hDc hFc hk1 hP1
  generalize H1 = H at hP hS ⊢
  have hP : va_P (dC, dI) vwCl (List.flatten [(wMO qO k widthO manyO cellsO movedO (qTa 0) (qLi 0) (qHa 0) (qBr 0) (qCa 0) (qWa 0) (qFr 0) (qAc 0) isKeptO loadNowO byNowO rowO memoryO whoseO deepNowO brokenByO brokenAtO goesByO comesToO sagMoreO creakOfO wipedByO deepAtO sagAtO loadAtO orderRowO oftenO lossOneO lossOtherO vz7 tz8 mz9 gz10), (wmLi qLi k az3), (wmHa qHa k hz4), (wmBr qBr k aBr), (wmCa qCa k pCa), (wmWa qWa k jWa), (wmFr qFr k aFr), (wmAc qAc k iAc)] ++ List.flatten [(wmTa qTa k aTa)]) H := hP
  have hD : va_D A (List.flatten [(wMO qO k widthO manyO cellsO movedO (qTa 0) (qLi 0) (qHa 0) (qBr 0) (qCa 0) (qWa 0) (qFr 0) (qAc 0) isKeptO loadNowO byNowO rowO memoryO whoseO deepNowO brokenByO brokenAtO goesByO comesToO sagMoreO creakOfO wipedByO deepAtO sagAtO loadAtO orderRowO oftenO lossOneO lossOtherO vz7 tz8 mz9 gz10), (wmLi qLi k az3), (wmHa qHa k hz4), (wmBr qBr k aBr), (wmCa qCa k pCa), (wmWa qWa k jWa), (wmFr qFr k aFr), (wmAc qAc k iAc)] ++ List.flatten [(wmTa qTa k aTa)]) := hD
  refine W.widen (k := 0) (n := 0) (Nat.le_refl 0) (Nat.le_refl 0) ?_
  have pz11 : (tz8 0).toInt = (tO 0).toInt := pz11
  have pz12 : (tz8 1).toInt ≤ (tO 0).toInt := pz12
  have bz13 := htO 0
  have lp13_kz457 : ∀ (n9_13 : Nat) (H : Heap) (locs : List Loc) (ls : Array Slot) (az447 : Nat → Nat → Int32) (pz448 : Nat → Nat → Int32) (az449 : Nat → Nat → Int32) (hz450 : Nat → Nat → Int32) (az451 : Nat → Nat → Int32) (gz452 : Nat → Int64) (mz453 : Nat → Int32) (tz454 : Nat → Int32) (vz455 : Nat → Int32) (jz456 : Nat → Nat → Int32), (700 - (tz454 1).toInt).toNat < n9_13 → Pa_p pz448 → Pa_h hz450 → Rg (-1) 127 mz453 → Rg 0 700 tz454 → Pa_j jz456 → (tz454 1).toInt ≤ (tz454 0).toInt → va_P (dC, dI) vwCl (List.flatten [(wMO qO k widthO manyO cellsO movedO (qTa 0) (qLi 0) (qHa 0) (qBr 0) (qCa 0) (qWa 0) (qFr 0) (qAc 0) isKeptO loadNowO byNowO rowO memoryO whoseO deepNowO brokenByO brokenAtO goesByO comesToO sagMoreO creakOfO wipedByO deepAtO sagAtO loadAtO orderRowO oftenO lossOneO lossOtherO vz455 tz454 mz453 gz452), (wmLi qLi k az451), (wmHa qHa k hz450), (wmBr qBr k az447), (wmCa qCa k pz448), (wmWa qWa k jz456), (wmFr qFr k az449), (wmAc qAc k iAc)] ++ List.flatten [(wmTa qTa k aTa)]) H → va_D A (List.flatten [(wMO qO k widthO manyO cellsO movedO (qTa 0) (qLi 0) (qHa 0) (qBr 0) (qCa 0) (qWa 0) (qFr 0) (qAc 0) isKeptO loadNowO byNowO rowO memoryO whoseO deepNowO brokenByO brokenAtO goesByO comesToO sagMoreO creakOfO wipedByO deepAtO sagAtO loadAtO orderRowO oftenO lossOneO lossOtherO vz455 tz454 mz453 gz452), (wmLi qLi k az451), (wmHa qHa k hz450), (wmBr qBr k az447), (wmCa qCa k pz448), (wmWa qWa k jz456), (wmFr qFr k az449), (wmAc qAc k iAc)] ++ List.flatten [(wmTa qTa k aTa)]) → va_S A s.heap H locs → lv_has ls 1 [(0, .ref (qO 0))] → W p l e (headSpec wk_c_X12_valley ({ frames := 7, cells := 0, slots := 0, locals := 153 })).room s m ([.ref (qO 0)] : List Value).toArray below meth c H locs 0 0 Q (F0 m 13 ls []) := by
    intro n9_13
    induction n9_13 with
    | zero => intro H locs ls az447 pz448 az449 hz450 az451 gz452 mz453 tz454 vz455 jz456 hm; exact absurd hm (Nat.not_lt_zero _)
    | succ n9_13 ih13 =>
      intro H locs ls az447 pz448 az449 hz450 az451 gz452 mz453 tz454 vz455 jz456 hm13 hpz448 hhz450 hmz453 htz454 hjz456 jz458 hP hD hS hl
      refine lv_aload_n hx hb dX12_valley_13 rfl (lv_at hl 0 rfl) ?_
      have hPc := hP.sub (ws' := (List.flatten [(wMO qO k widthO manyO cellsO movedO (qTa 0) (qLi 0) (qHa 0) (qBr 0) (qCa 0) (qWa 0) (qFr 0) (qAc 0) isKeptO loadNowO byNowO rowO memoryO whoseO deepNowO brokenByO brokenAtO goesByO comesToO sagMoreO creakOfO wipedByO deepAtO sagAtO loadAtO orderRowO oftenO lossOneO lossOtherO vz455 tz454 mz453 gz452)])) [0] rfl
      refine vp_callSi (va_Run.run (va_runV (As := []) (rest := []) ⟨hx, hb, hml, hown, hts⟩ (c_X12_isGood l dC dI k qO widthO manyO cellsO movedO (qTa 0) (qLi 0) (qHa 0) (qBr 0) (qCa 0) (qWa 0) (qFr 0) (qAc 0) isKeptO loadNowO byNowO rowO memoryO whoseO deepNowO brokenByO brokenAtO goesByO comesToO sagMoreO creakOfO wipedByO deepAtO sagAtO loadAtO orderRowO oftenO lossOneO lossOtherO vz455 tz454 mz453 gz452 htz454 hmz453) (cwV 0 hts (gk_V (wl_mem 8 rfl) (wl_mem 9 rfl) (wl_mem 10 rfl) (wl_mem 4 rfl) (fun w h => List.mem_cons_of_mem _ (List.mem_append_right _ (List.mem_append_right _ (List.mem_append_right _ (List.mem_append_right _ (List.mem_append_left _ h)))))) wkg_c_X12_isGood) rfl rfl rfl (by decide +kernel) ⟨Nat.le_of_ble_eq_true rfl, Nat.le_of_ble_eq_true rfl⟩) ⟨fun a U g mk q => by obtain ⟨q0, qP, qK⟩ := q; exact ⟨q0, qP, va_K.moved (u := U) (U := U.calling g mk a) (Vm.Alike.refl U.vm) qK⟩, va_recv hK hPc (ci := 12) (q0 := 0) rfl rfl, fun U hU hW => ⟨rfl, by rw [hU]; exact hPc, va_K.moved hW.alike hK⟩⟩ rfl rfl hl.1 rfl (lv_room (Nat.le_of_ble_eq_true rfl)) dX12_valley_14 ⟨Nat.le_of_ble_eq_true rfl, Nat.le_of_ble_eq_true rfl⟩)) (fun rz460 gz459 => ?_)
      clear hPc
      rcases gz459 with ⟨er, cz461⟩ | ⟨er, cz462⟩
      · obtain rfl := er.symm
        have zz463 : ¬ (vz455 4).toInt = (0 : Int) := fun h9 => cz461 (zi_eq.mpr h9)
        refine lv_if_eq (tgt := 118) hx hb dX12_valley_17 (by decide) (fun cz465 => ?_) (fun cz465 => ?_)
        · skip
          refine lv_aload_n hx hb dX12_valley_118 rfl (lv_at hl 0 rfl) ?_
          have hPc := hP.sub (ws' := (List.flatten [(wMO qO k widthO manyO cellsO movedO (qTa 0) (qLi 0) (qHa 0) (qBr 0) (qCa 0) (qWa 0) (qFr 0) (qAc 0) isKeptO loadNowO byNowO rowO memoryO whoseO deepNowO brokenByO brokenAtO goesByO comesToO sagMoreO creakOfO wipedByO deepAtO sagAtO loadAtO orderRowO oftenO lossOneO lossOtherO vz455 tz454 mz453 gz452)] ++ List.flatten ([] : List va_W))) [0] rfl
          have hC : [0].map (fun i => (List.flatten [(wMO qO k widthO manyO cellsO movedO (qTa 0) (qLi 0) (qHa 0) (qBr 0) (qCa 0) (qWa 0) (qFr 0) (qAc 0) isKeptO loadNowO byNowO rowO memoryO whoseO deepNowO brokenByO brokenAtO goesByO comesToO sagMoreO creakOfO wipedByO deepAtO sagAtO loadAtO orderRowO oftenO lossOneO lossOtherO vz455 tz454 mz453 gz452), (wmLi qLi k az451), (wmHa qHa k hz450), (wmBr qBr k az447), (wmCa qCa k pz448), (wmWa qWa k jz456), (wmFr qFr k az449), (wmAc qAc k iAc)] ++ List.flatten [(wmTa qTa k aTa)])[i]?) = (List.flatten [(wMO qO k widthO manyO cellsO movedO (qTa 0) (qLi 0) (qHa 0) (qBr 0) (qCa 0) (qWa 0) (qFr 0) (qAc 0) isKeptO loadNowO byNowO rowO memoryO whoseO deepNowO brokenByO brokenAtO goesByO comesToO sagMoreO creakOfO wipedByO deepAtO sagAtO loadAtO orderRowO oftenO lossOneO lossOtherO vz455 tz454 mz453 gz452)] ++ List.flatten ([] : List va_W)).map some := rfl
          have hDc := hD.sub [0] (by decide) hC
          have hFc := va_free hD hS hA [0] hC
          refine va_callv (va_runV (As := []) (rest := []) ⟨hx, hb, hml, hown, hts⟩ (c_X12_isOver l dC dI k H.size qO widthO manyO cellsO movedO (qTa 0) (qLi 0) (qHa 0) (qBr 0) (qCa 0) (qWa 0) (qFr 0) (qAc 0) isKeptO loadNowO byNowO rowO memoryO whoseO deepNowO brokenByO brokenAtO goesByO comesToO sagMoreO creakOfO wipedByO deepAtO sagAtO loadAtO orderRowO oftenO lossOneO lossOtherO vz455 tz454 mz453 gz452 htz454 hmz453) (cwV 0 hts (gk_V (wl_mem 32 rfl) (wl_mem 33 rfl) (wl_mem 34 rfl) (wl_mem 4 rfl) (fun w h => List.mem_cons_of_mem _ (List.mem_append_right _ (List.mem_append_right _ (List.mem_append_right _ (List.mem_append_right _ (List.mem_append_right _ (List.mem_append_right _ (List.mem_append_right _ (List.mem_append_right _ (List.mem_append_right _ (List.mem_append_right _ (List.mem_append_right _ (List.mem_append_right _ (List.mem_append_left _ h)))))))))))))) wkg_c_X12_isOver) rfl rfl rfl (by decide +kernel) ⟨Nat.le_of_ble_eq_true rfl, Nat.le_of_ble_eq_true rfl⟩) ⟨fun a U g mk q => by obtain ⟨q0, q1, qP, qK, qD⟩ := q; exact ⟨q0, q1, qP, va_K.moved (u := U) (U := U.calling g mk a) (Vm.Alike.refl U.vm) qK, qD⟩, va_recv hK hPc (ci := 12) (q0 := 0) rfl rfl, fun U hU hW => ⟨rfl, by rw [hU], by rw [hU]; exact hPc, va_K.moved hW.alike hK, hDc.weaken (fun _ _ _ _ => trivial)⟩⟩ rfl rfl hl.1 rfl (lv_room (Nat.le_of_ble_eq_true rfl)) dX12_valley_119 ⟨Nat.le_of_ble_eq_true rfl, Nat.le_of_ble_eq_true rfl⟩) hS (fun q _ h => hFc q h) hFc (fun u t H1 locs ht hvm gz466 hB hz1 hk1 hS => ?_)
          obtain ⟨vz468, tz469, mz470, gz471, htz469, hmz470, hP1⟩ := hB
          rw [ht] at hP1
          obtain ⟨hP, hD⟩ := w_callR hP hD hk1 hP1 [0] rfl rfl (fun _ h => absurd h List.not_mem_nil) rfl [some 0, none, none, none, none, none, none, none] rfl rfl
          clear hPc hC hDc hFc hk1 hP1
          generalize H1 = H at hP hS ⊢
          have hP : va_P (dC, dI) vwCl (List.flatten [(wMO qO k widthO manyO cellsO movedO (qTa 0) (qLi 0) (qHa 0) (qBr 0) (qCa 0) (qWa 0) (qFr 0) (qAc 0) isKeptO loadNowO byNowO rowO memoryO whoseO deepNowO brokenByO brokenAtO goesByO comesToO sagMoreO creakOfO wipedByO deepAtO sagAtO loadAtO orderRowO oftenO lossOneO lossOtherO vz468 tz469 mz470 gz471), (wmLi qLi k az451), (wmHa qHa k hz450), (wmBr qBr k az447), (wmCa qCa k pz448), (wmWa qWa k jz456), (wmFr qFr k az449), (wmAc qAc k iAc)] ++ List.flatten [(wmTa qTa k aTa)]) H := hP
          have hD : va_D A (List.flatten [(wMO qO k widthO manyO cellsO movedO (qTa 0) (qLi 0) (qHa 0) (qBr 0) (qCa 0) (qWa 0) (qFr 0) (qAc 0) isKeptO loadNowO byNowO rowO memoryO whoseO deepNowO brokenByO brokenAtO goesByO comesToO sagMoreO creakOfO wipedByO deepAtO sagAtO loadAtO orderRowO oftenO lossOneO lossOtherO vz468 tz469 mz470 gz471), (wmLi qLi k az451), (wmHa qHa k hz450), (wmBr qBr k az447), (wmCa qCa k pz448), (wmWa qWa k jz456), (wmFr qFr k az449), (wmAc qAc k iAc)] ++ List.flatten [(wmTa qTa k aTa)]) := hD
          refine W.widen (k := 0) (n := 0) (Nat.le_refl 0) (Nat.le_refl 0) ?_
          refine lv_aload_n hx hb dX12_valley_122 rfl (lv_at hl 0 rfl) ?_
          refine va_get (D := (dC, dI)) (ci := 12) (v := .int (vz468 4)) (C := RX12) (T := TX12) (N := 59) hx hb hts (fun w h => List.mem_cons_of_mem _ (List.mem_append_right _ (List.mem_append_left _ h))) hown hK hP 0 rfl rfl 12 (by decide) (hts (.fieldLink RX12 168 "SagMemoryModel" "bad" "I") (wl_mem 35 rfl)) (fun _ h9 => h9) rfl dX12_valley_123 ?_
          refine lv_if_eq (tgt := 132) hx hb dX12_valley_126 (by decide) (fun cz472 => ?_) (fun cz472 => ?_)
          · skip
            have zz473 : (vz468 4).toInt = (0 : Int) := zi_eq.mp cz472
            refine lv_aload_n hx hb dX12_valley_132 rfl (lv_at hl 0 rfl) ?_
            refine lv_iconst (v := 4) hx hb dX12_valley_133 (by decide) ?_
            refine lv_iconst (v := 0) hx hb dX12_valley_134 (by decide) ?_
            have hPc := hP.sub (ws' := (List.flatten [(wmLi qLi k az451), (wmHa qHa k hz450), (wmBr qBr k az447), (wmCa qCa k pz448), (wmWa qWa k jz456), (wmFr qFr k az449), (wmAc qAc k iAc)] ++ List.flatten [(wMO qO k widthO manyO cellsO movedO (qTa 0) (qLi 0) (qHa 0) (qBr 0) (qCa 0) (qWa 0) (qFr 0) (qAc 0) isKeptO loadNowO byNowO rowO memoryO whoseO deepNowO brokenByO brokenAtO goesByO comesToO sagMoreO creakOfO wipedByO deepAtO sagAtO loadAtO orderRowO oftenO lossOneO lossOtherO vz468 tz469 mz470 gz471)])) [1, 2, 3, 4, 5, 6, 7, 0] rfl
            have hC : [1, 2, 3, 4, 5, 6, 7, 0].map (fun i => (List.flatten [(wMO qO k widthO manyO cellsO movedO (qTa 0) (qLi 0) (qHa 0) (qBr 0) (qCa 0) (qWa 0) (qFr 0) (qAc 0) isKeptO loadNowO byNowO rowO memoryO whoseO deepNowO brokenByO brokenAtO goesByO comesToO sagMoreO creakOfO wipedByO deepAtO sagAtO loadAtO orderRowO oftenO lossOneO lossOtherO vz468 tz469 mz470 gz471), (wmLi qLi k az451), (wmHa qHa k hz450), (wmBr qBr k az447), (wmCa qCa k pz448), (wmWa qWa k jz456), (wmFr qFr k az449), (wmAc qAc k iAc)] ++ List.flatten [(wmTa qTa k aTa)])[i]?) = (List.flatten [(wmLi qLi k az451), (wmHa qHa k hz450), (wmBr qBr k az447), (wmCa qCa k pz448), (wmWa qWa k jz456), (wmFr qFr k az449), (wmAc qAc k iAc)] ++ List.flatten [(wMO qO k widthO manyO cellsO movedO (qTa 0) (qLi 0) (qHa 0) (qBr 0) (qCa 0) (qWa 0) (qFr 0) (qAc 0) isKeptO loadNowO byNowO rowO memoryO whoseO deepNowO brokenByO brokenAtO goesByO comesToO sagMoreO creakOfO wipedByO deepAtO sagAtO loadAtO orderRowO oftenO lossOneO lossOtherO vz468 tz469 mz470 gz471)]).map some := rfl
            have hDc := hD.sub [1, 2, 3, 4, 5, 6, 7, 0] (by decide) hC
            have hFc := va_free hD hS hA [1, 2, 3, 4, 5, 6, 7, 0] hC
            refine va_callv (va_runV (As := [.int 4, .int 0]) (rest := []) ⟨hx, hb, hml, hown, hts⟩ (c_X12_copyValley l dC dI k H.size qO widthO manyO cellsO movedO (qTa 0) isKeptO loadNowO byNowO rowO memoryO whoseO deepNowO brokenByO brokenAtO goesByO comesToO sagMoreO creakOfO wipedByO deepAtO sagAtO loadAtO orderRowO oftenO lossOneO lossOtherO vz468 tz469 mz470 gz471 qLi az451 qHa hz450 qBr az447 qCa pz448 qWa jz456 qFr az449 qAc iAc (4 : Int32) (0 : Int32) htz469 hmz470 hhz450 hpz448 hjz456 hiAc (by show 0 ≤ (4 : Int) ∧ (4 : Int) ≤ 4; omega) (by show 0 ≤ (0 : Int) ∧ (0 : Int) ≤ 4; omega)) (cwV 2 hts (gk_V (wl_mem 36 rfl) (wl_mem 37 rfl) (wl_mem 38 rfl) (wl_mem 4 rfl) (fun w h => List.mem_cons_of_mem _ (List.mem_append_right _ (List.mem_append_right _ (List.mem_append_right _ (List.mem_append_right _ (List.mem_append_right _ (List.mem_append_right _ (List.mem_append_right _ (List.mem_append_right _ (List.mem_append_right _ (List.mem_append_right _ (List.mem_append_right _ (List.mem_append_right _ (List.mem_append_right _ (List.mem_append_left _ h))))))))))))))) wkg_c_X12_copyValley) rfl rfl rfl (by decide +kernel) ⟨Nat.le_of_ble_eq_true rfl, Nat.le_of_ble_eq_true rfl⟩) ⟨fun a U g mk q => by obtain ⟨q0, q1, qP, qK, qD⟩ := q; exact ⟨q0, q1, qP, va_K.moved (u := U) (U := U.calling g mk a) (Vm.Alike.refl U.vm) qK, qD⟩, va_recv hK hPc (ci := 12) (q0 := 7) rfl rfl, fun U hU hW => ⟨rfl, by rw [hU], by rw [hU]; exact hPc, va_K.moved hW.alike hK, hDc.weaken (fun _ _ _ _ => trivial)⟩⟩ rfl rfl hl.1 rfl (lv_room (Nat.le_of_ble_eq_true rfl)) dX12_valley_135 ⟨Nat.le_of_ble_eq_true rfl, Nat.le_of_ble_eq_true rfl⟩) hS (fun q _ h => hFc q h) hFc (fun u t H1 locs ht hvm gz474 hB hz1 hk1 hS => ?_)
            obtain ⟨az476, hz477, az478, pz479, jz480, az481, iz482, hhz477, hpz479, hjz480, hiz482, hP1⟩ := hB
            rw [ht] at hP1
            obtain ⟨hP, hD⟩ := w_callR hP hD hk1 hP1 [1, 2, 3, 4, 5, 6, 7] rfl rfl (wk_memC [0] rfl) rfl [none, some 0, some 1, some 2, some 3, some 4, some 5, some 6] rfl rfl
            clear hPc hC hDc hFc hk1 hP1
            generalize H1 = H at hP hS ⊢
            have hP : va_P (dC, dI) vwCl (List.flatten [(wMO qO k widthO manyO cellsO movedO (qTa 0) (qLi 0) (qHa 0) (qBr 0) (qCa 0) (qWa 0) (qFr 0) (qAc 0) isKeptO loadNowO byNowO rowO memoryO whoseO deepNowO brokenByO brokenAtO goesByO comesToO sagMoreO creakOfO wipedByO deepAtO sagAtO loadAtO orderRowO oftenO lossOneO lossOtherO vz468 tz469 mz470 gz471), (wmLi qLi k az476), (wmHa qHa k hz477), (wmBr qBr k az478), (wmCa qCa k pz479), (wmWa qWa k jz480), (wmFr qFr k az481), (wmAc qAc k iz482)] ++ List.flatten [(wmTa qTa k aTa)]) H := hP
            have hD : va_D A (List.flatten [(wMO qO k widthO manyO cellsO movedO (qTa 0) (qLi 0) (qHa 0) (qBr 0) (qCa 0) (qWa 0) (qFr 0) (qAc 0) isKeptO loadNowO byNowO rowO memoryO whoseO deepNowO brokenByO brokenAtO goesByO comesToO sagMoreO creakOfO wipedByO deepAtO sagAtO loadAtO orderRowO oftenO lossOneO lossOtherO vz468 tz469 mz470 gz471), (wmLi qLi k az476), (wmHa qHa k hz477), (wmBr qBr k az478), (wmCa qCa k pz479), (wmWa qWa k jz480), (wmFr qFr k az481), (wmAc qAc k iz482)] ++ List.flatten [(wmTa qTa k aTa)]) := hD
            refine W.widen (k := 0) (n := 0) (Nat.le_refl 0) (Nat.le_refl 0) ?_
            refine lv_aload_n hx hb dX12_valley_138 rfl (lv_at hl 0 rfl) ?_
            refine va_get (D := (dC, dI)) (ci := 12) (v := .ref (qLi 0)) (C := RX12) (T := TX12) (N := 59) hx hb hts (fun w h => List.mem_cons_of_mem _ (List.mem_append_right _ (List.mem_append_left _ h))) hown hK hP 0 rfl rfl 16 (by decide) (hts (.fieldLink RX12 31 "SagMemoryModel" "lines" "[I") (wl_mem 12 rfl)) (fun _ h9 => h9) rfl dX12_valley_139 ?_
            refine lv_iconst (v := 0) hx hb dX12_valley_142 (by decide) ?_
            refine va_iald hx hb hK hP 1 0 rfl rfl (by unfold vp_in; decide) dX12_valley_143 ?_
            refine lv_topi (fun xz483 exz483 => ?_)
            rw [hQ]
            exact W.iret (v := xz483) hx hb hr (fun t ht hW => ⟨⟨xz483, (), rfl, trivial, vz468, tz469, mz470, gz471, az476, hz477, az478, pz479, jz480, az481, iz482, htz469, hmz470, hhz477, hpz479, hjz480, hiz482, by rw [ht]; exact hP⟩, hS.F ht⟩) hS.2.2 dX12_valley_144
          · skip
            have zz484 : ¬ (vz468 4).toInt = (0 : Int) := fun h9 => cz472 (zi_eq.mpr h9)
            refine lv_bipush (v := (-4)) hx hb dX12_valley_129 (by decide) ?_
            rw [hQ]
            exact W.iret (v := (-4 : Int32)) hx hb hr (fun t ht hW => ⟨⟨(-4 : Int32), (), rfl, trivial, vz468, tz469, mz470, gz471, az451, hz450, az447, pz448, jz456, az449, iAc, htz469, hmz470, hhz450, hpz448, hjz456, hiAc, by rw [ht]; exact hP⟩, hS.F ht⟩) hS.2.2 dX12_valley_131
        · skip
          exact absurd cz465 (by decide)
      · obtain rfl := er.symm
        have zz485 : (vz455 4).toInt = (0 : Int) := zi_eq.mp cz462
        have ct118_kz736 : ∀ (H : Heap) (locs : List Loc) (ls : Array Slot) (az726 : Nat → Nat → Int32) (pz727 : Nat → Nat → Int32) (az728 : Nat → Nat → Int32) (hz729 : Nat → Nat → Int32) (az730 : Nat → Nat → Int32) (gz731 : Nat → Int64) (mz732 : Nat → Int32) (tz733 : Nat → Int32) (vz734 : Nat → Int32) (jz735 : Nat → Nat → Int32), Pa_p pz727 → Pa_h hz729 → Rg (-1) 127 mz732 → Rg 0 700 tz733 → Pa_j jz735 → (tz733 1).toInt ≤ (tz733 0).toInt → va_P (dC, dI) vwCl (List.flatten [(wMO qO k widthO manyO cellsO movedO (qTa 0) (qLi 0) (qHa 0) (qBr 0) (qCa 0) (qWa 0) (qFr 0) (qAc 0) isKeptO loadNowO byNowO rowO memoryO whoseO deepNowO brokenByO brokenAtO goesByO comesToO sagMoreO creakOfO wipedByO deepAtO sagAtO loadAtO orderRowO oftenO lossOneO lossOtherO vz734 tz733 mz732 gz731), (wmLi qLi k az730), (wmHa qHa k hz729), (wmBr qBr k az726), (wmCa qCa k pz727), (wmWa qWa k jz735), (wmFr qFr k az728), (wmAc qAc k iAc)] ++ List.flatten [(wmTa qTa k aTa)]) H → va_D A (List.flatten [(wMO qO k widthO manyO cellsO movedO (qTa 0) (qLi 0) (qHa 0) (qBr 0) (qCa 0) (qWa 0) (qFr 0) (qAc 0) isKeptO loadNowO byNowO rowO memoryO whoseO deepNowO brokenByO brokenAtO goesByO comesToO sagMoreO creakOfO wipedByO deepAtO sagAtO loadAtO orderRowO oftenO lossOneO lossOtherO vz734 tz733 mz732 gz731), (wmLi qLi k az730), (wmHa qHa k hz729), (wmBr qBr k az726), (wmCa qCa k pz727), (wmWa qWa k jz735), (wmFr qFr k az728), (wmAc qAc k iAc)] ++ List.flatten [(wmTa qTa k aTa)]) → va_S A s.heap H locs → lv_has ls 1 [(0, .ref (qO 0))] → W p l e (headSpec wk_c_X12_valley ({ frames := 7, cells := 0, slots := 0, locals := 153 })).room s m ([.ref (qO 0)] : List Value).toArray below meth c H locs 0 0 Q (F0 m 118 ls []) := by
          intro H locs ls az726 pz727 az728 hz729 az730 gz731 mz732 tz733 vz734 jz735 hpz727 hhz729 hmz732 htz733 hjz735 jz737 hP hD hS hl
          refine lv_aload_n hx hb dX12_valley_118 rfl (lv_at hl 0 rfl) ?_
          have hPc := hP.sub (ws' := (List.flatten [(wMO qO k widthO manyO cellsO movedO (qTa 0) (qLi 0) (qHa 0) (qBr 0) (qCa 0) (qWa 0) (qFr 0) (qAc 0) isKeptO loadNowO byNowO rowO memoryO whoseO deepNowO brokenByO brokenAtO goesByO comesToO sagMoreO creakOfO wipedByO deepAtO sagAtO loadAtO orderRowO oftenO lossOneO lossOtherO vz734 tz733 mz732 gz731)] ++ List.flatten ([] : List va_W))) [0] rfl
          have hC : [0].map (fun i => (List.flatten [(wMO qO k widthO manyO cellsO movedO (qTa 0) (qLi 0) (qHa 0) (qBr 0) (qCa 0) (qWa 0) (qFr 0) (qAc 0) isKeptO loadNowO byNowO rowO memoryO whoseO deepNowO brokenByO brokenAtO goesByO comesToO sagMoreO creakOfO wipedByO deepAtO sagAtO loadAtO orderRowO oftenO lossOneO lossOtherO vz734 tz733 mz732 gz731), (wmLi qLi k az730), (wmHa qHa k hz729), (wmBr qBr k az726), (wmCa qCa k pz727), (wmWa qWa k jz735), (wmFr qFr k az728), (wmAc qAc k iAc)] ++ List.flatten [(wmTa qTa k aTa)])[i]?) = (List.flatten [(wMO qO k widthO manyO cellsO movedO (qTa 0) (qLi 0) (qHa 0) (qBr 0) (qCa 0) (qWa 0) (qFr 0) (qAc 0) isKeptO loadNowO byNowO rowO memoryO whoseO deepNowO brokenByO brokenAtO goesByO comesToO sagMoreO creakOfO wipedByO deepAtO sagAtO loadAtO orderRowO oftenO lossOneO lossOtherO vz734 tz733 mz732 gz731)] ++ List.flatten ([] : List va_W)).map some := rfl
          have hDc := hD.sub [0] (by decide) hC
          have hFc := va_free hD hS hA [0] hC
          refine va_callv (va_runV (As := []) (rest := []) ⟨hx, hb, hml, hown, hts⟩ (c_X12_isOver l dC dI k H.size qO widthO manyO cellsO movedO (qTa 0) (qLi 0) (qHa 0) (qBr 0) (qCa 0) (qWa 0) (qFr 0) (qAc 0) isKeptO loadNowO byNowO rowO memoryO whoseO deepNowO brokenByO brokenAtO goesByO comesToO sagMoreO creakOfO wipedByO deepAtO sagAtO loadAtO orderRowO oftenO lossOneO lossOtherO vz734 tz733 mz732 gz731 htz733 hmz732) (cwV 0 hts (gk_V (wl_mem 32 rfl) (wl_mem 33 rfl) (wl_mem 34 rfl) (wl_mem 4 rfl) (fun w h => List.mem_cons_of_mem _ (List.mem_append_right _ (List.mem_append_right _ (List.mem_append_right _ (List.mem_append_right _ (List.mem_append_right _ (List.mem_append_right _ (List.mem_append_right _ (List.mem_append_right _ (List.mem_append_right _ (List.mem_append_right _ (List.mem_append_right _ (List.mem_append_right _ (List.mem_append_left _ h)))))))))))))) wkg_c_X12_isOver) rfl rfl rfl (by decide +kernel) ⟨Nat.le_of_ble_eq_true rfl, Nat.le_of_ble_eq_true rfl⟩) ⟨fun a U g mk q => by obtain ⟨q0, q1, qP, qK, qD⟩ := q; exact ⟨q0, q1, qP, va_K.moved (u := U) (U := U.calling g mk a) (Vm.Alike.refl U.vm) qK, qD⟩, va_recv hK hPc (ci := 12) (q0 := 0) rfl rfl, fun U hU hW => ⟨rfl, by rw [hU], by rw [hU]; exact hPc, va_K.moved hW.alike hK, hDc.weaken (fun _ _ _ _ => trivial)⟩⟩ rfl rfl hl.1 rfl (lv_room (Nat.le_of_ble_eq_true rfl)) dX12_valley_119 ⟨Nat.le_of_ble_eq_true rfl, Nat.le_of_ble_eq_true rfl⟩) hS (fun q _ h => hFc q h) hFc (fun u t H1 locs ht hvm gz738 hB hz1 hk1 hS => ?_)
          obtain ⟨vz740, tz741, mz742, gz743, htz741, hmz742, hP1⟩ := hB
          rw [ht] at hP1
          obtain ⟨hP, hD⟩ := w_callR hP hD hk1 hP1 [0] rfl rfl (fun _ h => absurd h List.not_mem_nil) rfl [some 0, none, none, none, none, none, none, none] rfl rfl
          clear hPc hC hDc hFc hk1 hP1
          generalize H1 = H at hP hS ⊢
          have hP : va_P (dC, dI) vwCl (List.flatten [(wMO qO k widthO manyO cellsO movedO (qTa 0) (qLi 0) (qHa 0) (qBr 0) (qCa 0) (qWa 0) (qFr 0) (qAc 0) isKeptO loadNowO byNowO rowO memoryO whoseO deepNowO brokenByO brokenAtO goesByO comesToO sagMoreO creakOfO wipedByO deepAtO sagAtO loadAtO orderRowO oftenO lossOneO lossOtherO vz740 tz741 mz742 gz743), (wmLi qLi k az730), (wmHa qHa k hz729), (wmBr qBr k az726), (wmCa qCa k pz727), (wmWa qWa k jz735), (wmFr qFr k az728), (wmAc qAc k iAc)] ++ List.flatten [(wmTa qTa k aTa)]) H := hP
          have hD : va_D A (List.flatten [(wMO qO k widthO manyO cellsO movedO (qTa 0) (qLi 0) (qHa 0) (qBr 0) (qCa 0) (qWa 0) (qFr 0) (qAc 0) isKeptO loadNowO byNowO rowO memoryO whoseO deepNowO brokenByO brokenAtO goesByO comesToO sagMoreO creakOfO wipedByO deepAtO sagAtO loadAtO orderRowO oftenO lossOneO lossOtherO vz740 tz741 mz742 gz743), (wmLi qLi k az730), (wmHa qHa k hz729), (wmBr qBr k az726), (wmCa qCa k pz727), (wmWa qWa k jz735), (wmFr qFr k az728), (wmAc qAc k iAc)] ++ List.flatten [(wmTa qTa k aTa)]) := hD
          refine W.widen (k := 0) (n := 0) (Nat.le_refl 0) (Nat.le_refl 0) ?_
          refine lv_aload_n hx hb dX12_valley_122 rfl (lv_at hl 0 rfl) ?_
          refine va_get (D := (dC, dI)) (ci := 12) (v := .int (vz740 4)) (C := RX12) (T := TX12) (N := 59) hx hb hts (fun w h => List.mem_cons_of_mem _ (List.mem_append_right _ (List.mem_append_left _ h))) hown hK hP 0 rfl rfl 12 (by decide) (hts (.fieldLink RX12 168 "SagMemoryModel" "bad" "I") (wl_mem 35 rfl)) (fun _ h9 => h9) rfl dX12_valley_123 ?_
          refine lv_if_eq (tgt := 132) hx hb dX12_valley_126 (by decide) (fun cz744 => ?_) (fun cz744 => ?_)
          · skip
            have zz745 : (vz740 4).toInt = (0 : Int) := zi_eq.mp cz744
            refine lv_aload_n hx hb dX12_valley_132 rfl (lv_at hl 0 rfl) ?_
            refine lv_iconst (v := 4) hx hb dX12_valley_133 (by decide) ?_
            refine lv_iconst (v := 0) hx hb dX12_valley_134 (by decide) ?_
            have hPc := hP.sub (ws' := (List.flatten [(wmLi qLi k az730), (wmHa qHa k hz729), (wmBr qBr k az726), (wmCa qCa k pz727), (wmWa qWa k jz735), (wmFr qFr k az728), (wmAc qAc k iAc)] ++ List.flatten [(wMO qO k widthO manyO cellsO movedO (qTa 0) (qLi 0) (qHa 0) (qBr 0) (qCa 0) (qWa 0) (qFr 0) (qAc 0) isKeptO loadNowO byNowO rowO memoryO whoseO deepNowO brokenByO brokenAtO goesByO comesToO sagMoreO creakOfO wipedByO deepAtO sagAtO loadAtO orderRowO oftenO lossOneO lossOtherO vz740 tz741 mz742 gz743)])) [1, 2, 3, 4, 5, 6, 7, 0] rfl
            have hC : [1, 2, 3, 4, 5, 6, 7, 0].map (fun i => (List.flatten [(wMO qO k widthO manyO cellsO movedO (qTa 0) (qLi 0) (qHa 0) (qBr 0) (qCa 0) (qWa 0) (qFr 0) (qAc 0) isKeptO loadNowO byNowO rowO memoryO whoseO deepNowO brokenByO brokenAtO goesByO comesToO sagMoreO creakOfO wipedByO deepAtO sagAtO loadAtO orderRowO oftenO lossOneO lossOtherO vz740 tz741 mz742 gz743), (wmLi qLi k az730), (wmHa qHa k hz729), (wmBr qBr k az726), (wmCa qCa k pz727), (wmWa qWa k jz735), (wmFr qFr k az728), (wmAc qAc k iAc)] ++ List.flatten [(wmTa qTa k aTa)])[i]?) = (List.flatten [(wmLi qLi k az730), (wmHa qHa k hz729), (wmBr qBr k az726), (wmCa qCa k pz727), (wmWa qWa k jz735), (wmFr qFr k az728), (wmAc qAc k iAc)] ++ List.flatten [(wMO qO k widthO manyO cellsO movedO (qTa 0) (qLi 0) (qHa 0) (qBr 0) (qCa 0) (qWa 0) (qFr 0) (qAc 0) isKeptO loadNowO byNowO rowO memoryO whoseO deepNowO brokenByO brokenAtO goesByO comesToO sagMoreO creakOfO wipedByO deepAtO sagAtO loadAtO orderRowO oftenO lossOneO lossOtherO vz740 tz741 mz742 gz743)]).map some := rfl
            have hDc := hD.sub [1, 2, 3, 4, 5, 6, 7, 0] (by decide) hC
            have hFc := va_free hD hS hA [1, 2, 3, 4, 5, 6, 7, 0] hC
            refine va_callv (va_runV (As := [.int 4, .int 0]) (rest := []) ⟨hx, hb, hml, hown, hts⟩ (c_X12_copyValley l dC dI k H.size qO widthO manyO cellsO movedO (qTa 0) isKeptO loadNowO byNowO rowO memoryO whoseO deepNowO brokenByO brokenAtO goesByO comesToO sagMoreO creakOfO wipedByO deepAtO sagAtO loadAtO orderRowO oftenO lossOneO lossOtherO vz740 tz741 mz742 gz743 qLi az730 qHa hz729 qBr az726 qCa pz727 qWa jz735 qFr az728 qAc iAc (4 : Int32) (0 : Int32) htz741 hmz742 hhz729 hpz727 hjz735 hiAc (by show 0 ≤ (4 : Int) ∧ (4 : Int) ≤ 4; omega) (by show 0 ≤ (0 : Int) ∧ (0 : Int) ≤ 4; omega)) (cwV 2 hts (gk_V (wl_mem 36 rfl) (wl_mem 37 rfl) (wl_mem 38 rfl) (wl_mem 4 rfl) (fun w h => List.mem_cons_of_mem _ (List.mem_append_right _ (List.mem_append_right _ (List.mem_append_right _ (List.mem_append_right _ (List.mem_append_right _ (List.mem_append_right _ (List.mem_append_right _ (List.mem_append_right _ (List.mem_append_right _ (List.mem_append_right _ (List.mem_append_right _ (List.mem_append_right _ (List.mem_append_right _ (List.mem_append_left _ h))))))))))))))) wkg_c_X12_copyValley) rfl rfl rfl (by decide +kernel) ⟨Nat.le_of_ble_eq_true rfl, Nat.le_of_ble_eq_true rfl⟩) ⟨fun a U g mk q => by obtain ⟨q0, q1, qP, qK, qD⟩ := q; exact ⟨q0, q1, qP, va_K.moved (u := U) (U := U.calling g mk a) (Vm.Alike.refl U.vm) qK, qD⟩, va_recv hK hPc (ci := 12) (q0 := 7) rfl rfl, fun U hU hW => ⟨rfl, by rw [hU], by rw [hU]; exact hPc, va_K.moved hW.alike hK, hDc.weaken (fun _ _ _ _ => trivial)⟩⟩ rfl rfl hl.1 rfl (lv_room (Nat.le_of_ble_eq_true rfl)) dX12_valley_135 ⟨Nat.le_of_ble_eq_true rfl, Nat.le_of_ble_eq_true rfl⟩) hS (fun q _ h => hFc q h) hFc (fun u t H1 locs ht hvm gz746 hB hz1 hk1 hS => ?_)
            obtain ⟨az748, hz749, az750, pz751, jz752, az753, iz754, hhz749, hpz751, hjz752, hiz754, hP1⟩ := hB
            rw [ht] at hP1
            obtain ⟨hP, hD⟩ := w_callR hP hD hk1 hP1 [1, 2, 3, 4, 5, 6, 7] rfl rfl (wk_memC [0] rfl) rfl [none, some 0, some 1, some 2, some 3, some 4, some 5, some 6] rfl rfl
            clear hPc hC hDc hFc hk1 hP1
            generalize H1 = H at hP hS ⊢
            have hP : va_P (dC, dI) vwCl (List.flatten [(wMO qO k widthO manyO cellsO movedO (qTa 0) (qLi 0) (qHa 0) (qBr 0) (qCa 0) (qWa 0) (qFr 0) (qAc 0) isKeptO loadNowO byNowO rowO memoryO whoseO deepNowO brokenByO brokenAtO goesByO comesToO sagMoreO creakOfO wipedByO deepAtO sagAtO loadAtO orderRowO oftenO lossOneO lossOtherO vz740 tz741 mz742 gz743), (wmLi qLi k az748), (wmHa qHa k hz749), (wmBr qBr k az750), (wmCa qCa k pz751), (wmWa qWa k jz752), (wmFr qFr k az753), (wmAc qAc k iz754)] ++ List.flatten [(wmTa qTa k aTa)]) H := hP
            have hD : va_D A (List.flatten [(wMO qO k widthO manyO cellsO movedO (qTa 0) (qLi 0) (qHa 0) (qBr 0) (qCa 0) (qWa 0) (qFr 0) (qAc 0) isKeptO loadNowO byNowO rowO memoryO whoseO deepNowO brokenByO brokenAtO goesByO comesToO sagMoreO creakOfO wipedByO deepAtO sagAtO loadAtO orderRowO oftenO lossOneO lossOtherO vz740 tz741 mz742 gz743), (wmLi qLi k az748), (wmHa qHa k hz749), (wmBr qBr k az750), (wmCa qCa k pz751), (wmWa qWa k jz752), (wmFr qFr k az753), (wmAc qAc k iz754)] ++ List.flatten [(wmTa qTa k aTa)]) := hD
            refine W.widen (k := 0) (n := 0) (Nat.le_refl 0) (Nat.le_refl 0) ?_
            refine lv_aload_n hx hb dX12_valley_138 rfl (lv_at hl 0 rfl) ?_
            refine va_get (D := (dC, dI)) (ci := 12) (v := .ref (qLi 0)) (C := RX12) (T := TX12) (N := 59) hx hb hts (fun w h => List.mem_cons_of_mem _ (List.mem_append_right _ (List.mem_append_left _ h))) hown hK hP 0 rfl rfl 16 (by decide) (hts (.fieldLink RX12 31 "SagMemoryModel" "lines" "[I") (wl_mem 12 rfl)) (fun _ h9 => h9) rfl dX12_valley_139 ?_
            refine lv_iconst (v := 0) hx hb dX12_valley_142 (by decide) ?_
            refine va_iald hx hb hK hP 1 0 rfl rfl (by unfold vp_in; decide) dX12_valley_143 ?_
            refine lv_topi (fun xz755 exz755 => ?_)
            rw [hQ]
            exact W.iret (v := xz755) hx hb hr (fun t ht hW => ⟨⟨xz755, (), rfl, trivial, vz740, tz741, mz742, gz743, az748, hz749, az750, pz751, jz752, az753, iz754, htz741, hmz742, hhz749, hpz751, hjz752, hiz754, by rw [ht]; exact hP⟩, hS.F ht⟩) hS.2.2 dX12_valley_144
          · skip
            have zz756 : ¬ (vz740 4).toInt = (0 : Int) := fun h9 => cz744 (zi_eq.mpr h9)
            refine lv_bipush (v := (-4)) hx hb dX12_valley_129 (by decide) ?_
            rw [hQ]
            exact W.iret (v := (-4 : Int32)) hx hb hr (fun t ht hW => ⟨⟨(-4 : Int32), (), rfl, trivial, vz740, tz741, mz742, gz743, az730, hz729, az726, pz727, jz735, az728, iAc, htz741, hmz742, hhz729, hpz727, hjz735, hiAc, by rw [ht]; exact hP⟩, hS.F ht⟩) hS.2.2 dX12_valley_131
        refine lv_if_eq (tgt := 118) hx hb dX12_valley_17 (by decide) (fun cz757 => ?_) (fun cz757 => ?_)
        · skip
          exact absurd cz757 (by decide)
        · skip
          refine lv_aload_n hx hb dX12_valley_20 rfl (lv_at hl 0 rfl) ?_
          refine va_get (D := (dC, dI)) (ci := 12) (v := .int (vz455 1)) (C := RX12) (T := TX12) (N := 59) hx hb hts (fun w h => List.mem_cons_of_mem _ (List.mem_append_right _ (List.mem_append_left _ h))) hown hK hP 0 rfl rfl 8 (by decide) (hts (.fieldLink RX12 157 "SagMemoryModel" "token" "I") (wl_mem 11 rfl)) (fun _ h9 => h9) rfl dX12_valley_21 ?_
          refine lv_if_eq (tgt := 118) hx hb dX12_valley_24 (by decide) (fun cz758 => ?_) (fun cz758 => ?_)
          · skip
            have zz759 : (vz455 1).toInt = (0 : Int) := zi_eq.mp cz758
            exact ct118_kz736 H locs ls az447 pz448 az449 hz450 az451 gz452 mz453 tz454 vz455 jz456  hpz448 hhz450 hmz453 htz454 hjz456 (by show (tz454 1).toInt ≤ (tz454 0).toInt; omega) hP hD hS (lv_sub hl [0] rfl)
          · skip
            have zz760 : ¬ (vz455 1).toInt = (0 : Int) := fun h9 => cz758 (zi_eq.mpr h9)
            refine lv_aload_n hx hb dX12_valley_27 rfl (lv_at hl 0 rfl) ?_
            refine va_get (D := (dC, dI)) (ci := 12) (v := .ref (qLi 0)) (C := RX12) (T := TX12) (N := 59) hx hb hts (fun w h => List.mem_cons_of_mem _ (List.mem_append_right _ (List.mem_append_left _ h))) hown hK hP 0 rfl rfl 16 (by decide) (hts (.fieldLink RX12 31 "SagMemoryModel" "lines" "[I") (wl_mem 12 rfl)) (fun _ h9 => h9) rfl dX12_valley_28 ?_
            refine lv_iconst (v := 4) hx hb dX12_valley_31 (by decide) ?_
            refine va_iald hx hb hK hP 1 0 rfl rfl (by unfold vp_in; decide) dX12_valley_32 ?_
            refine lv_topi (fun xz761 exz761 => ?_)
            have ct94_kz846 : ∀ (H : Heap) (locs : List Loc) (ls : Array Slot) (az837 : Nat → Nat → Int32) (pz838 : Nat → Nat → Int32) (az839 : Nat → Nat → Int32) (hz840 : Nat → Nat → Int32) (gz841 : Nat → Int64) (mz842 : Nat → Int32) (tz843 : Nat → Int32) (vz844 : Nat → Int32) (jz845 : Nat → Nat → Int32), Pa_p pz838 → Pa_h hz840 → Rg (-1) 127 mz842 → Rg 0 700 tz843 → Pa_j jz845 → (tz454 1).toInt ≤ (tz843 1).toInt → (tz843 1).toInt ≤ (tz843 0).toInt → va_P (dC, dI) vwCl (List.flatten [(wMO qO k widthO manyO cellsO movedO (qTa 0) (qLi 0) (qHa 0) (qBr 0) (qCa 0) (qWa 0) (qFr 0) (qAc 0) isKeptO loadNowO byNowO rowO memoryO whoseO deepNowO brokenByO brokenAtO goesByO comesToO sagMoreO creakOfO wipedByO deepAtO sagAtO loadAtO orderRowO oftenO lossOneO lossOtherO vz844 tz843 mz842 gz841), (wmLi qLi k az451), (wmHa qHa k hz840), (wmBr qBr k az837), (wmCa qCa k pz838), (wmWa qWa k jz845), (wmFr qFr k az839), (wmAc qAc k iAc)] ++ List.flatten [(wmTa qTa k aTa)]) H → va_D A (List.flatten [(wMO qO k widthO manyO cellsO movedO (qTa 0) (qLi 0) (qHa 0) (qBr 0) (qCa 0) (qWa 0) (qFr 0) (qAc 0) isKeptO loadNowO byNowO rowO memoryO whoseO deepNowO brokenByO brokenAtO goesByO comesToO sagMoreO creakOfO wipedByO deepAtO sagAtO loadAtO orderRowO oftenO lossOneO lossOtherO vz844 tz843 mz842 gz841), (wmLi qLi k az451), (wmHa qHa k hz840), (wmBr qBr k az837), (wmCa qCa k pz838), (wmWa qWa k jz845), (wmFr qFr k az839), (wmAc qAc k iAc)] ++ List.flatten [(wmTa qTa k aTa)]) → va_S A s.heap H locs → lv_has ls 1 [(0, .ref (qO 0))] → W p l e (headSpec wk_c_X12_valley ({ frames := 7, cells := 0, slots := 0, locals := 153 })).room s m ([.ref (qO 0)] : List Value).toArray below meth c H locs 0 0 Q (F0 m 94 ls []) := by
              intro H locs ls az837 pz838 az839 hz840 gz841 mz842 tz843 vz844 jz845 hpz838 hhz840 hmz842 htz843 hjz845 jz847 jz848 hP hD hS hl
              refine lv_aload_n hx hb dX12_valley_94 rfl (lv_at hl 0 rfl) ?_
              have hPc := hP.sub (ws' := (List.flatten [(wMO qO k widthO manyO cellsO movedO (qTa 0) (qLi 0) (qHa 0) (qBr 0) (qCa 0) (qWa 0) (qFr 0) (qAc 0) isKeptO loadNowO byNowO rowO memoryO whoseO deepNowO brokenByO brokenAtO goesByO comesToO sagMoreO creakOfO wipedByO deepAtO sagAtO loadAtO orderRowO oftenO lossOneO lossOtherO vz844 tz843 mz842 gz841)])) [0] rfl
              refine vp_callSi (va_Run.run (va_runV (As := []) (rest := []) ⟨hx, hb, hml, hown, hts⟩ (c_X12_isGood l dC dI k qO widthO manyO cellsO movedO (qTa 0) (qLi 0) (qHa 0) (qBr 0) (qCa 0) (qWa 0) (qFr 0) (qAc 0) isKeptO loadNowO byNowO rowO memoryO whoseO deepNowO brokenByO brokenAtO goesByO comesToO sagMoreO creakOfO wipedByO deepAtO sagAtO loadAtO orderRowO oftenO lossOneO lossOtherO vz844 tz843 mz842 gz841 htz843 hmz842) (cwV 0 hts (gk_V (wl_mem 8 rfl) (wl_mem 9 rfl) (wl_mem 10 rfl) (wl_mem 4 rfl) (fun w h => List.mem_cons_of_mem _ (List.mem_append_right _ (List.mem_append_right _ (List.mem_append_right _ (List.mem_append_right _ (List.mem_append_left _ h)))))) wkg_c_X12_isGood) rfl rfl rfl (by decide +kernel) ⟨Nat.le_of_ble_eq_true rfl, Nat.le_of_ble_eq_true rfl⟩) ⟨fun a U g mk q => by obtain ⟨q0, qP, qK⟩ := q; exact ⟨q0, qP, va_K.moved (u := U) (U := U.calling g mk a) (Vm.Alike.refl U.vm) qK⟩, va_recv hK hPc (ci := 12) (q0 := 0) rfl rfl, fun U hU hW => ⟨rfl, by rw [hU]; exact hPc, va_K.moved hW.alike hK⟩⟩ rfl rfl hl.1 rfl (lv_room (Nat.le_of_ble_eq_true rfl)) dX12_valley_95 ⟨Nat.le_of_ble_eq_true rfl, Nat.le_of_ble_eq_true rfl⟩)) (fun rz850 gz849 => ?_)
              clear hPc
              rcases gz849 with ⟨er, cz851⟩ | ⟨er, cz852⟩
              · obtain rfl := er.symm
                have zz853 : ¬ (vz844 4).toInt = (0 : Int) := fun h9 => cz851 (zi_eq.mpr h9)
                refine lv_if_eq (tgt := 105) hx hb dX12_valley_98 (by decide) (fun cz855 => ?_) (fun cz855 => ?_)
                · skip
                  refine lv_aload_n hx hb dX12_valley_105 rfl (lv_at hl 0 rfl) ?_
                  refine va_get (D := (dC, dI)) (ci := 12) (v := .ref (qLi 0)) (C := RX12) (T := TX12) (N := 59) hx hb hts (fun w h => List.mem_cons_of_mem _ (List.mem_append_right _ (List.mem_append_left _ h))) hown hK hP 0 rfl rfl 16 (by decide) (hts (.fieldLink RX12 31 "SagMemoryModel" "lines" "[I") (wl_mem 12 rfl)) (fun _ h9 => h9) rfl dX12_valley_106 ?_
                  refine lv_iconst (v := 4) hx hb dX12_valley_109 (by decide) ?_
                  refine lv_dup2_11 hx hb dX12_valley_110 rfl rfl ?_
                  refine va_iald hx hb hK hP 1 0 rfl rfl (by unfold vp_in; decide) dX12_valley_111 ?_
                  refine lv_topi (fun xz856 exz856 => ?_)
                  refine lv_iconst (v := 1) hx hb dX12_valley_112 (by decide) ?_
                  refine lv_iadd hx hb dX12_valley_113 ?_
                  refine lv_topi (fun xz857 exz857 => ?_)
                  refine va_iast hx hb hK hP hD hS 1 0 rfl rfl (by unfold vp_in; decide) dX12_valley_114 (fun H locs hP hD hS => ?_)
                  obtain ⟨fz858, efz858, hP, hD⟩ : ∃ fz858 : Nat → Int32, fz858 = upd (az451 0) (4 : Int32).toNatClampNeg xz857 ∧ va_P (dC, dI) vwCl (List.flatten [(wMO qO k widthO manyO cellsO movedO (qTa 0) (qLi 0) (qHa 0) (qBr 0) (qCa 0) (qWa 0) (qFr 0) (qAc 0) isKeptO loadNowO byNowO rowO memoryO whoseO deepNowO brokenByO brokenAtO goesByO comesToO sagMoreO creakOfO wipedByO deepAtO sagAtO loadAtO orderRowO oftenO lossOneO lossOtherO vz844 tz843 mz842 gz841), (wmLi qLi k (va_up az451 0 fz858)), (wmHa qHa k hz840), (wmBr qBr k az837), (wmCa qCa k pz838), (wmWa qWa k jz845), (wmFr qFr k az839), (wmAc qAc k iAc)] ++ List.flatten [(wmTa qTa k aTa)]) H ∧ va_D A (List.flatten [(wMO qO k widthO manyO cellsO movedO (qTa 0) (qLi 0) (qHa 0) (qBr 0) (qCa 0) (qWa 0) (qFr 0) (qAc 0) isKeptO loadNowO byNowO rowO memoryO whoseO deepNowO brokenByO brokenAtO goesByO comesToO sagMoreO creakOfO wipedByO deepAtO sagAtO loadAtO orderRowO oftenO lossOneO lossOtherO vz844 tz843 mz842 gz841), (wmLi qLi k (va_up az451 0 fz858)), (wmHa qHa k hz840), (wmBr qBr k az837), (wmCa qCa k pz838), (wmWa qWa k jz845), (wmFr qFr k az839), (wmAc qAc k iAc)] ++ List.flatten [(wmTa qTa k aTa)]) := ⟨_, rfl, hP, hD⟩
                  have kfz858 : fz858 (4 : Int32).toNatClampNeg = xz857 := by rw [efz858]; exact pk_us
                  refine lv_goto (tgt := 13) hx hb dX12_valley_115 (by decide) ?_
                  by_cases cz859 : (vz844 4) = 0
                  · skip
                    have zz860 : (vz844 4).toInt = (0 : Int) := zi_eq.mp cz859
                    omega
                  · skip
                    have zz861 : ¬ (vz844 4).toInt = (0 : Int) := fun h9 => cz859 (zi_eq.mpr h9)
                    refine lv_aload_n hx hb dX12_valley_13 rfl (lv_at hl 0 rfl) ?_
                    have hPc := hP.sub (ws' := (List.flatten [(wMO qO k widthO manyO cellsO movedO (qTa 0) (qLi 0) (qHa 0) (qBr 0) (qCa 0) (qWa 0) (qFr 0) (qAc 0) isKeptO loadNowO byNowO rowO memoryO whoseO deepNowO brokenByO brokenAtO goesByO comesToO sagMoreO creakOfO wipedByO deepAtO sagAtO loadAtO orderRowO oftenO lossOneO lossOtherO vz844 tz843 mz842 gz841)])) [0] rfl
                    refine vp_callSi (va_Run.run (va_runV (As := []) (rest := []) ⟨hx, hb, hml, hown, hts⟩ (c_X12_isGood l dC dI k qO widthO manyO cellsO movedO (qTa 0) (qLi 0) (qHa 0) (qBr 0) (qCa 0) (qWa 0) (qFr 0) (qAc 0) isKeptO loadNowO byNowO rowO memoryO whoseO deepNowO brokenByO brokenAtO goesByO comesToO sagMoreO creakOfO wipedByO deepAtO sagAtO loadAtO orderRowO oftenO lossOneO lossOtherO vz844 tz843 mz842 gz841 htz843 hmz842) (cwV 0 hts (gk_V (wl_mem 8 rfl) (wl_mem 9 rfl) (wl_mem 10 rfl) (wl_mem 4 rfl) (fun w h => List.mem_cons_of_mem _ (List.mem_append_right _ (List.mem_append_right _ (List.mem_append_right _ (List.mem_append_right _ (List.mem_append_left _ h)))))) wkg_c_X12_isGood) rfl rfl rfl (by decide +kernel) ⟨Nat.le_of_ble_eq_true rfl, Nat.le_of_ble_eq_true rfl⟩) ⟨fun a U g mk q => by obtain ⟨q0, qP, qK⟩ := q; exact ⟨q0, qP, va_K.moved (u := U) (U := U.calling g mk a) (Vm.Alike.refl U.vm) qK⟩, va_recv hK hPc (ci := 12) (q0 := 0) rfl rfl, fun U hU hW => ⟨rfl, by rw [hU]; exact hPc, va_K.moved hW.alike hK⟩⟩ rfl rfl hl.1 rfl (lv_room (Nat.le_of_ble_eq_true rfl)) dX12_valley_14 ⟨Nat.le_of_ble_eq_true rfl, Nat.le_of_ble_eq_true rfl⟩)) (fun rz863 gz862 => ?_)
                    clear hPc
                    rcases gz862 with ⟨er, cz864⟩ | ⟨er, cz865⟩
                    · obtain rfl := er.symm
                      have zz866 : ¬ (vz844 4).toInt = (0 : Int) := fun h9 => cz864 (zi_eq.mpr h9)
                      refine lv_if_eq (tgt := 118) hx hb dX12_valley_17 (by decide) (fun cz867 => ?_) (fun cz867 => ?_)
                      · skip
                        exact ct118_kz736 H locs ls az837 pz838 az839 hz840 (va_up az451 0 fz858) gz841 mz842 tz843 vz844 jz845  hpz838 hhz840 hmz842 htz843 hjz845 (by show (tz843 1).toInt ≤ (tz843 0).toInt; omega) hP hD hS (lv_sub hl [0] rfl)
                      · skip
                        exact absurd cz867 (by decide)
                    · obtain rfl := er.symm
                      have zz868 : (vz844 4).toInt = (0 : Int) := zi_eq.mp cz865
                      omega
                · skip
                  exact absurd cz855 (by decide)
              · obtain rfl := er.symm
                have zz869 : (vz844 4).toInt = (0 : Int) := zi_eq.mp cz852
                refine lv_if_eq (tgt := 105) hx hb dX12_valley_98 (by decide) (fun cz883 => ?_) (fun cz883 => ?_)
                · skip
                  exact absurd cz883 (by decide)
                · skip
                  refine lv_aload_n hx hb dX12_valley_101 rfl (lv_at hl 0 rfl) ?_
                  have bz884 := htz843 1
                  have bz885 := htz843 0
                  have hPc := hP.sub (ws' := (List.flatten [(wMO qO k widthO manyO cellsO movedO (qTa 0) (qLi 0) (qHa 0) (qBr 0) (qCa 0) (qWa 0) (qFr 0) (qAc 0) isKeptO loadNowO byNowO rowO memoryO whoseO deepNowO brokenByO brokenAtO goesByO comesToO sagMoreO creakOfO wipedByO deepAtO sagAtO loadAtO orderRowO oftenO lossOneO lossOtherO vz844 tz843 mz842 gz841)] ++ List.flatten [(wmTa qTa k aTa)])) [0, 8] rfl
                  have hC : [0, 8].map (fun i => (List.flatten [(wMO qO k widthO manyO cellsO movedO (qTa 0) (qLi 0) (qHa 0) (qBr 0) (qCa 0) (qWa 0) (qFr 0) (qAc 0) isKeptO loadNowO byNowO rowO memoryO whoseO deepNowO brokenByO brokenAtO goesByO comesToO sagMoreO creakOfO wipedByO deepAtO sagAtO loadAtO orderRowO oftenO lossOneO lossOtherO vz844 tz843 mz842 gz841), (wmLi qLi k az451), (wmHa qHa k hz840), (wmBr qBr k az837), (wmCa qCa k pz838), (wmWa qWa k jz845), (wmFr qFr k az839), (wmAc qAc k iAc)] ++ List.flatten [(wmTa qTa k aTa)])[i]?) = (List.flatten [(wMO qO k widthO manyO cellsO movedO (qTa 0) (qLi 0) (qHa 0) (qBr 0) (qCa 0) (qWa 0) (qFr 0) (qAc 0) isKeptO loadNowO byNowO rowO memoryO whoseO deepNowO brokenByO brokenAtO goesByO comesToO sagMoreO creakOfO wipedByO deepAtO sagAtO loadAtO orderRowO oftenO lossOneO lossOtherO vz844 tz843 mz842 gz841)] ++ List.flatten [(wmTa qTa k aTa)]).map some := rfl
                  have hDc := hD.sub [0, 8] (by decide) hC
                  have hFc := va_free hD hS hA [0, 8] hC
                  refine va_callv (va_runV (As := []) (rest := []) ⟨hx, hb, hml, hown, hts⟩ (c_X12_ends l dC dI k H.size qO widthO manyO cellsO movedO (qLi 0) (qHa 0) (qBr 0) (qCa 0) (qWa 0) (qFr 0) (qAc 0) isKeptO loadNowO byNowO rowO memoryO whoseO deepNowO brokenByO brokenAtO goesByO comesToO sagMoreO creakOfO wipedByO deepAtO sagAtO loadAtO orderRowO oftenO lossOneO lossOtherO vz844 tz843 mz842 gz841 qTa aTa htz843 hmz842 (by show (tz843 1).toInt ≤ (tz843 0).toInt; omega)) (cwV 0 hts (gk_V (wl_mem 29 rfl) (wl_mem 30 rfl) (wl_mem 31 rfl) (wl_mem 4 rfl) (fun w h => List.mem_cons_of_mem _ (List.mem_append_right _ (List.mem_append_right _ (List.mem_append_right _ (List.mem_append_right _ (List.mem_append_right _ (List.mem_append_right _ (List.mem_append_right _ (List.mem_append_right _ (List.mem_append_right _ (List.mem_append_right _ (List.mem_append_right _ (List.mem_append_left _ h))))))))))))) wkg_c_X12_ends) rfl rfl rfl (by decide +kernel) ⟨Nat.le_of_ble_eq_true rfl, Nat.le_of_ble_eq_true rfl⟩) ⟨fun a U g mk q => by obtain ⟨q0, q1, qP, qK, qD⟩ := q; exact ⟨q0, q1, qP, va_K.moved (u := U) (U := U.calling g mk a) (Vm.Alike.refl U.vm) qK, qD⟩, va_recv hK hPc (ci := 12) (q0 := 0) rfl rfl, fun U hU hW => ⟨rfl, by rw [hU], by rw [hU]; exact hPc, va_K.moved hW.alike hK, hDc.weaken (fun _ _ _ _ => trivial)⟩⟩ rfl rfl hl.1 rfl (lv_room (Nat.le_of_ble_eq_true rfl)) dX12_valley_102 ⟨Nat.le_of_ble_eq_true rfl, Nat.le_of_ble_eq_true rfl⟩) hS (fun q _ h => hFc q h) hFc (fun u t H1 locs ht hvm gz886 hB hz1 hk1 hS => ?_)
                  obtain ⟨vz888, tz889, mz890, gz891, htz889, hmz890, pz892, pz893, pz894, pz895, hP1⟩ := hB
                  rw [ht] at hP1
                  obtain ⟨hP, hD⟩ := w_callR hP hD hk1 hP1 [0] rfl rfl (wk_memC [8] rfl) rfl [some 0, none, none, none, none, none, none, none] rfl rfl
                  clear hPc hC hDc hFc hk1 hP1
                  generalize H1 = H at hP hS ⊢
                  have hP : va_P (dC, dI) vwCl (List.flatten [(wMO qO k widthO manyO cellsO movedO (qTa 0) (qLi 0) (qHa 0) (qBr 0) (qCa 0) (qWa 0) (qFr 0) (qAc 0) isKeptO loadNowO byNowO rowO memoryO whoseO deepNowO brokenByO brokenAtO goesByO comesToO sagMoreO creakOfO wipedByO deepAtO sagAtO loadAtO orderRowO oftenO lossOneO lossOtherO vz888 tz889 mz890 gz891), (wmLi qLi k az451), (wmHa qHa k hz840), (wmBr qBr k az837), (wmCa qCa k pz838), (wmWa qWa k jz845), (wmFr qFr k az839), (wmAc qAc k iAc)] ++ List.flatten [(wmTa qTa k aTa)]) H := hP
                  have hD : va_D A (List.flatten [(wMO qO k widthO manyO cellsO movedO (qTa 0) (qLi 0) (qHa 0) (qBr 0) (qCa 0) (qWa 0) (qFr 0) (qAc 0) isKeptO loadNowO byNowO rowO memoryO whoseO deepNowO brokenByO brokenAtO goesByO comesToO sagMoreO creakOfO wipedByO deepAtO sagAtO loadAtO orderRowO oftenO lossOneO lossOtherO vz888 tz889 mz890 gz891), (wmLi qLi k az451), (wmHa qHa k hz840), (wmBr qBr k az837), (wmCa qCa k pz838), (wmWa qWa k jz845), (wmFr qFr k az839), (wmAc qAc k iAc)] ++ List.flatten [(wmTa qTa k aTa)]) := hD
                  refine W.widen (k := 0) (n := 0) (Nat.le_refl 0) (Nat.le_refl 0) ?_
                  have pz892 : (tz889 0).toInt = (tz843 0).toInt := pz892
                  have pz893 : (tz889 1).toInt ≤ (tz843 0).toInt := pz893
                  have pz894 : (tz843 1).toInt ≤ (tz889 1).toInt := pz894
                  have pz895 : (vz888 4).toInt ≠ 0 ∨ (vz888 1).toInt = 0 ∨ (tz843 1).toInt < (tz889 1).toInt := pz895
                  refine lv_aload_n hx hb dX12_valley_105 rfl (lv_at hl 0 rfl) ?_
                  refine va_get (D := (dC, dI)) (ci := 12) (v := .ref (qLi 0)) (C := RX12) (T := TX12) (N := 59) hx hb hts (fun w h => List.mem_cons_of_mem _ (List.mem_append_right _ (List.mem_append_left _ h))) hown hK hP 0 rfl rfl 16 (by decide) (hts (.fieldLink RX12 31 "SagMemoryModel" "lines" "[I") (wl_mem 12 rfl)) (fun _ h9 => h9) rfl dX12_valley_106 ?_
                  refine lv_iconst (v := 4) hx hb dX12_valley_109 (by decide) ?_
                  refine lv_dup2_11 hx hb dX12_valley_110 rfl rfl ?_
                  refine va_iald hx hb hK hP 1 0 rfl rfl (by unfold vp_in; decide) dX12_valley_111 ?_
                  refine lv_topi (fun xz896 exz896 => ?_)
                  refine lv_iconst (v := 1) hx hb dX12_valley_112 (by decide) ?_
                  refine lv_iadd hx hb dX12_valley_113 ?_
                  refine lv_topi (fun xz897 exz897 => ?_)
                  refine va_iast hx hb hK hP hD hS 1 0 rfl rfl (by unfold vp_in; decide) dX12_valley_114 (fun H locs hP hD hS => ?_)
                  obtain ⟨fz898, efz898, hP, hD⟩ : ∃ fz898 : Nat → Int32, fz898 = upd (az451 0) (4 : Int32).toNatClampNeg xz897 ∧ va_P (dC, dI) vwCl (List.flatten [(wMO qO k widthO manyO cellsO movedO (qTa 0) (qLi 0) (qHa 0) (qBr 0) (qCa 0) (qWa 0) (qFr 0) (qAc 0) isKeptO loadNowO byNowO rowO memoryO whoseO deepNowO brokenByO brokenAtO goesByO comesToO sagMoreO creakOfO wipedByO deepAtO sagAtO loadAtO orderRowO oftenO lossOneO lossOtherO vz888 tz889 mz890 gz891), (wmLi qLi k (va_up az451 0 fz898)), (wmHa qHa k hz840), (wmBr qBr k az837), (wmCa qCa k pz838), (wmWa qWa k jz845), (wmFr qFr k az839), (wmAc qAc k iAc)] ++ List.flatten [(wmTa qTa k aTa)]) H ∧ va_D A (List.flatten [(wMO qO k widthO manyO cellsO movedO (qTa 0) (qLi 0) (qHa 0) (qBr 0) (qCa 0) (qWa 0) (qFr 0) (qAc 0) isKeptO loadNowO byNowO rowO memoryO whoseO deepNowO brokenByO brokenAtO goesByO comesToO sagMoreO creakOfO wipedByO deepAtO sagAtO loadAtO orderRowO oftenO lossOneO lossOtherO vz888 tz889 mz890 gz891), (wmLi qLi k (va_up az451 0 fz898)), (wmHa qHa k hz840), (wmBr qBr k az837), (wmCa qCa k pz838), (wmWa qWa k jz845), (wmFr qFr k az839), (wmAc qAc k iAc)] ++ List.flatten [(wmTa qTa k aTa)]) := ⟨_, rfl, hP, hD⟩
                  have kfz898 : fz898 (4 : Int32).toNatClampNeg = xz897 := by rw [efz898]; exact pk_us
                  refine lv_goto (tgt := 13) hx hb dX12_valley_115 (by decide) ?_
                  by_cases cz899 : (vz888 4) = 0
                  · skip
                    have zz900 : (vz888 4).toInt = (0 : Int) := zi_eq.mp cz899
                    by_cases cz901 : (vz888 1) = 0
                    · skip
                      have zz902 : (vz888 1).toInt = (0 : Int) := zi_eq.mp cz901
                      refine lv_aload_n hx hb dX12_valley_13 rfl (lv_at hl 0 rfl) ?_
                      have hPc := hP.sub (ws' := (List.flatten [(wMO qO k widthO manyO cellsO movedO (qTa 0) (qLi 0) (qHa 0) (qBr 0) (qCa 0) (qWa 0) (qFr 0) (qAc 0) isKeptO loadNowO byNowO rowO memoryO whoseO deepNowO brokenByO brokenAtO goesByO comesToO sagMoreO creakOfO wipedByO deepAtO sagAtO loadAtO orderRowO oftenO lossOneO lossOtherO vz888 tz889 mz890 gz891)])) [0] rfl
                      refine vp_callSi (va_Run.run (va_runV (As := []) (rest := []) ⟨hx, hb, hml, hown, hts⟩ (c_X12_isGood l dC dI k qO widthO manyO cellsO movedO (qTa 0) (qLi 0) (qHa 0) (qBr 0) (qCa 0) (qWa 0) (qFr 0) (qAc 0) isKeptO loadNowO byNowO rowO memoryO whoseO deepNowO brokenByO brokenAtO goesByO comesToO sagMoreO creakOfO wipedByO deepAtO sagAtO loadAtO orderRowO oftenO lossOneO lossOtherO vz888 tz889 mz890 gz891 htz889 hmz890) (cwV 0 hts (gk_V (wl_mem 8 rfl) (wl_mem 9 rfl) (wl_mem 10 rfl) (wl_mem 4 rfl) (fun w h => List.mem_cons_of_mem _ (List.mem_append_right _ (List.mem_append_right _ (List.mem_append_right _ (List.mem_append_right _ (List.mem_append_left _ h)))))) wkg_c_X12_isGood) rfl rfl rfl (by decide +kernel) ⟨Nat.le_of_ble_eq_true rfl, Nat.le_of_ble_eq_true rfl⟩) ⟨fun a U g mk q => by obtain ⟨q0, qP, qK⟩ := q; exact ⟨q0, qP, va_K.moved (u := U) (U := U.calling g mk a) (Vm.Alike.refl U.vm) qK⟩, va_recv hK hPc (ci := 12) (q0 := 0) rfl rfl, fun U hU hW => ⟨rfl, by rw [hU]; exact hPc, va_K.moved hW.alike hK⟩⟩ rfl rfl hl.1 rfl (lv_room (Nat.le_of_ble_eq_true rfl)) dX12_valley_14 ⟨Nat.le_of_ble_eq_true rfl, Nat.le_of_ble_eq_true rfl⟩)) (fun rz904 gz903 => ?_)
                      clear hPc
                      rcases gz903 with ⟨er, cz905⟩ | ⟨er, cz906⟩
                      · obtain rfl := er.symm
                        have zz907 : ¬ (vz888 4).toInt = (0 : Int) := fun h9 => cz905 (zi_eq.mpr h9)
                        omega
                      · obtain rfl := er.symm
                        have zz908 : (vz888 4).toInt = (0 : Int) := zi_eq.mp cz906
                        refine lv_if_eq (tgt := 118) hx hb dX12_valley_17 (by decide) (fun cz909 => ?_) (fun cz909 => ?_)
                        · skip
                          exact absurd cz909 (by decide)
                        · skip
                          refine lv_aload_n hx hb dX12_valley_20 rfl (lv_at hl 0 rfl) ?_
                          refine va_get (D := (dC, dI)) (ci := 12) (v := .int (vz888 1)) (C := RX12) (T := TX12) (N := 59) hx hb hts (fun w h => List.mem_cons_of_mem _ (List.mem_append_right _ (List.mem_append_left _ h))) hown hK hP 0 rfl rfl 8 (by decide) (hts (.fieldLink RX12 157 "SagMemoryModel" "token" "I") (wl_mem 11 rfl)) (fun _ h9 => h9) rfl dX12_valley_21 ?_
                          refine lv_if_eq (tgt := 118) hx hb dX12_valley_24 (by decide) (fun cz910 => ?_) (fun cz910 => ?_)
                          · skip
                            have zz911 : (vz888 1).toInt = (0 : Int) := zi_eq.mp cz910
                            exact ct118_kz736 H locs ls az837 pz838 az839 hz840 (va_up az451 0 fz898) gz891 mz890 tz889 vz888 jz845  hpz838 hhz840 hmz890 htz889 hjz845 (by show (tz889 1).toInt ≤ (tz889 0).toInt; omega) hP hD hS (lv_sub hl [0] rfl)
                          · skip
                            have zz912 : ¬ (vz888 1).toInt = (0 : Int) := fun h9 => cz910 (zi_eq.mpr h9)
                            omega
                    · skip
                      have zz913 : ¬ (vz888 1).toInt = (0 : Int) := fun h9 => cz901 (zi_eq.mpr h9)
                      exact ih13 H locs ls az837 pz838 az839 hz840 (va_up az451 0 fz898) gz891 mz890 tz889 vz888 jz845 (by show (700 - (tz889 1).toInt).toNat < n9_13; omega) hpz838 hhz840 hmz890 htz889 hjz845 (by show (tz889 1).toInt ≤ (tz889 0).toInt; omega) hP hD hS (lv_sub hl [0] rfl)
                  · skip
                    have zz914 : ¬ (vz888 4).toInt = (0 : Int) := fun h9 => cz899 (zi_eq.mpr h9)
                    refine lv_aload_n hx hb dX12_valley_13 rfl (lv_at hl 0 rfl) ?_
                    have hPc := hP.sub (ws' := (List.flatten [(wMO qO k widthO manyO cellsO movedO (qTa 0) (qLi 0) (qHa 0) (qBr 0) (qCa 0) (qWa 0) (qFr 0) (qAc 0) isKeptO loadNowO byNowO rowO memoryO whoseO deepNowO brokenByO brokenAtO goesByO comesToO sagMoreO creakOfO wipedByO deepAtO sagAtO loadAtO orderRowO oftenO lossOneO lossOtherO vz888 tz889 mz890 gz891)])) [0] rfl
                    refine vp_callSi (va_Run.run (va_runV (As := []) (rest := []) ⟨hx, hb, hml, hown, hts⟩ (c_X12_isGood l dC dI k qO widthO manyO cellsO movedO (qTa 0) (qLi 0) (qHa 0) (qBr 0) (qCa 0) (qWa 0) (qFr 0) (qAc 0) isKeptO loadNowO byNowO rowO memoryO whoseO deepNowO brokenByO brokenAtO goesByO comesToO sagMoreO creakOfO wipedByO deepAtO sagAtO loadAtO orderRowO oftenO lossOneO lossOtherO vz888 tz889 mz890 gz891 htz889 hmz890) (cwV 0 hts (gk_V (wl_mem 8 rfl) (wl_mem 9 rfl) (wl_mem 10 rfl) (wl_mem 4 rfl) (fun w h => List.mem_cons_of_mem _ (List.mem_append_right _ (List.mem_append_right _ (List.mem_append_right _ (List.mem_append_right _ (List.mem_append_left _ h)))))) wkg_c_X12_isGood) rfl rfl rfl (by decide +kernel) ⟨Nat.le_of_ble_eq_true rfl, Nat.le_of_ble_eq_true rfl⟩) ⟨fun a U g mk q => by obtain ⟨q0, qP, qK⟩ := q; exact ⟨q0, qP, va_K.moved (u := U) (U := U.calling g mk a) (Vm.Alike.refl U.vm) qK⟩, va_recv hK hPc (ci := 12) (q0 := 0) rfl rfl, fun U hU hW => ⟨rfl, by rw [hU]; exact hPc, va_K.moved hW.alike hK⟩⟩ rfl rfl hl.1 rfl (lv_room (Nat.le_of_ble_eq_true rfl)) dX12_valley_14 ⟨Nat.le_of_ble_eq_true rfl, Nat.le_of_ble_eq_true rfl⟩)) (fun rz916 gz915 => ?_)
                    clear hPc
                    rcases gz915 with ⟨er, cz917⟩ | ⟨er, cz918⟩
                    · obtain rfl := er.symm
                      have zz919 : ¬ (vz888 4).toInt = (0 : Int) := fun h9 => cz917 (zi_eq.mpr h9)
                      refine lv_if_eq (tgt := 118) hx hb dX12_valley_17 (by decide) (fun cz920 => ?_) (fun cz920 => ?_)
                      · skip
                        exact ct118_kz736 H locs ls az837 pz838 az839 hz840 (va_up az451 0 fz898) gz891 mz890 tz889 vz888 jz845  hpz838 hhz840 hmz890 htz889 hjz845 (by show (tz889 1).toInt ≤ (tz889 0).toInt; omega) hP hD hS (lv_sub hl [0] rfl)
                      · skip
                        exact absurd cz920 (by decide)
                    · obtain rfl := er.symm
                      have zz921 : (vz888 4).toInt = (0 : Int) := zi_eq.mp cz918
                      omega
            refine lv_if_ne (tgt := 90) hx hb dX12_valley_33 (by decide) (fun cz922 => ?_) (fun cz922 => ?_)
            · skip
              have zz923 : ¬ xz761.toInt = (0 : Int) := fun h9 => cz922 (zi_eq.mpr h9)
              refine lv_aload_n hx hb dX12_valley_90 rfl (lv_at hl 0 rfl) ?_
              have bz924 := htz454 1
              have bz925 := htz454 0
              have hPc := hP.sub (ws' := (List.flatten [(wMO qO k widthO manyO cellsO movedO (qTa 0) (qLi 0) (qHa 0) (qBr 0) (qCa 0) (qWa 0) (qFr 0) (qAc 0) isKeptO loadNowO byNowO rowO memoryO whoseO deepNowO brokenByO brokenAtO goesByO comesToO sagMoreO creakOfO wipedByO deepAtO sagAtO loadAtO orderRowO oftenO lossOneO lossOtherO vz455 tz454 mz453 gz452), (wmHa qHa k hz450), (wmBr qBr k az447), (wmCa qCa k pz448), (wmWa qWa k jz456), (wmFr qFr k az449)] ++ List.flatten [(wmTa qTa k aTa)])) [0, 2, 3, 4, 5, 6, 8] rfl
              have hC : [0, 2, 3, 4, 5, 6, 8].map (fun i => (List.flatten [(wMO qO k widthO manyO cellsO movedO (qTa 0) (qLi 0) (qHa 0) (qBr 0) (qCa 0) (qWa 0) (qFr 0) (qAc 0) isKeptO loadNowO byNowO rowO memoryO whoseO deepNowO brokenByO brokenAtO goesByO comesToO sagMoreO creakOfO wipedByO deepAtO sagAtO loadAtO orderRowO oftenO lossOneO lossOtherO vz455 tz454 mz453 gz452), (wmLi qLi k az451), (wmHa qHa k hz450), (wmBr qBr k az447), (wmCa qCa k pz448), (wmWa qWa k jz456), (wmFr qFr k az449), (wmAc qAc k iAc)] ++ List.flatten [(wmTa qTa k aTa)])[i]?) = (List.flatten [(wMO qO k widthO manyO cellsO movedO (qTa 0) (qLi 0) (qHa 0) (qBr 0) (qCa 0) (qWa 0) (qFr 0) (qAc 0) isKeptO loadNowO byNowO rowO memoryO whoseO deepNowO brokenByO brokenAtO goesByO comesToO sagMoreO creakOfO wipedByO deepAtO sagAtO loadAtO orderRowO oftenO lossOneO lossOtherO vz455 tz454 mz453 gz452), (wmHa qHa k hz450), (wmBr qBr k az447), (wmCa qCa k pz448), (wmWa qWa k jz456), (wmFr qFr k az449)] ++ List.flatten [(wmTa qTa k aTa)]).map some := rfl
              have hDc := hD.sub [0, 2, 3, 4, 5, 6, 8] (by decide) hC
              have hFc := va_free hD hS hA [0, 2, 3, 4, 5, 6, 8] hC
              refine va_callv (va_runV (As := []) (rest := []) ⟨hx, hb, hml, hown, hts⟩ (c_X12_lineHere l dC dI k H.size qO widthO manyO cellsO movedO (qLi 0) (qAc 0) isKeptO loadNowO byNowO rowO memoryO whoseO deepNowO brokenByO brokenAtO goesByO comesToO sagMoreO creakOfO wipedByO deepAtO sagAtO loadAtO orderRowO oftenO lossOneO lossOtherO vz455 tz454 mz453 gz452 qTa aTa qHa hz450 qBr az447 qCa pz448 qWa jz456 qFr az449 htz454 hmz453 hhz450 hpz448 hjz456 (by show (tz454 1).toInt ≤ (tz454 0).toInt; omega)) (cwV 0 hts (gk_V (wl_mem 13 rfl) (wl_mem 14 rfl) (wl_mem 15 rfl) (wl_mem 4 rfl) (fun w h => List.mem_cons_of_mem _ (List.mem_append_right _ (List.mem_append_right _ (List.mem_append_right _ (List.mem_append_right _ (List.mem_append_right _ (List.mem_append_left _ h))))))) wkg_c_X12_lineHere) rfl rfl rfl (by decide +kernel) ⟨Nat.le_of_ble_eq_true rfl, Nat.le_of_ble_eq_true rfl⟩) ⟨fun a U g mk q => by obtain ⟨q0, q1, qP, qK, qD⟩ := q; exact ⟨q0, q1, qP, va_K.moved (u := U) (U := U.calling g mk a) (Vm.Alike.refl U.vm) qK, qD⟩, va_recv hK hPc (ci := 12) (q0 := 0) rfl rfl, fun U hU hW => ⟨rfl, by rw [hU], by rw [hU]; exact hPc, va_K.moved hW.alike hK, hDc.weaken (fun _ _ _ _ => trivial)⟩⟩ rfl rfl hl.1 rfl (lv_room (Nat.le_of_ble_eq_true rfl)) dX12_valley_91 ⟨Nat.le_of_ble_eq_true rfl, Nat.le_of_ble_eq_true rfl⟩) hS (fun q _ h => hFc q h) hFc (fun u t H1 locs ht hvm gz926 hB hz1 hk1 hS => ?_)
              obtain ⟨vz928, tz929, mz930, gz931, hz932, az933, pz934, jz935, az936, htz929, hmz930, hhz932, hpz934, hjz935, pz937, pz938, pz939, hP1⟩ := hB
              rw [ht] at hP1
              obtain ⟨hP, hD⟩ := w_callR hP hD hk1 hP1 [0, 2, 3, 4, 5, 6] rfl rfl (wk_memC [8] rfl) rfl [some 0, none, some 1, some 2, some 3, some 4, some 5, none] rfl rfl
              clear hPc hC hDc hFc hk1 hP1
              generalize H1 = H at hP hS ⊢
              have hP : va_P (dC, dI) vwCl (List.flatten [(wMO qO k widthO manyO cellsO movedO (qTa 0) (qLi 0) (qHa 0) (qBr 0) (qCa 0) (qWa 0) (qFr 0) (qAc 0) isKeptO loadNowO byNowO rowO memoryO whoseO deepNowO brokenByO brokenAtO goesByO comesToO sagMoreO creakOfO wipedByO deepAtO sagAtO loadAtO orderRowO oftenO lossOneO lossOtherO vz928 tz929 mz930 gz931), (wmLi qLi k az451), (wmHa qHa k hz932), (wmBr qBr k az933), (wmCa qCa k pz934), (wmWa qWa k jz935), (wmFr qFr k az936), (wmAc qAc k iAc)] ++ List.flatten [(wmTa qTa k aTa)]) H := hP
              have hD : va_D A (List.flatten [(wMO qO k widthO manyO cellsO movedO (qTa 0) (qLi 0) (qHa 0) (qBr 0) (qCa 0) (qWa 0) (qFr 0) (qAc 0) isKeptO loadNowO byNowO rowO memoryO whoseO deepNowO brokenByO brokenAtO goesByO comesToO sagMoreO creakOfO wipedByO deepAtO sagAtO loadAtO orderRowO oftenO lossOneO lossOtherO vz928 tz929 mz930 gz931), (wmLi qLi k az451), (wmHa qHa k hz932), (wmBr qBr k az933), (wmCa qCa k pz934), (wmWa qWa k jz935), (wmFr qFr k az936), (wmAc qAc k iAc)] ++ List.flatten [(wmTa qTa k aTa)]) := hD
              refine W.widen (k := 0) (n := 0) (Nat.le_refl 0) (Nat.le_refl 0) ?_
              have pz937 : (tz929 0).toInt = (tz454 0).toInt := pz937
              have pz938 : (tz929 1).toInt ≤ (tz454 0).toInt := pz938
              have pz939 : (tz454 1).toInt ≤ (tz929 1).toInt := pz939
              exact ct94_kz846 H locs ls az933 pz934 az936 hz932 gz931 mz930 tz929 vz928 jz935  hpz934 hhz932 hmz930 htz929 hjz935 (by show (tz454 1).toInt ≤ (tz929 1).toInt; omega) (by show (tz929 1).toInt ≤ (tz929 0).toInt; omega) hP hD hS (lv_sub hl [0] rfl)
            · skip
              have zz940 : xz761.toInt = (0 : Int) := zi_eq.mp cz922
              refine lv_aload_n hx hb dX12_valley_36 rfl (lv_at hl 0 rfl) ?_
              refine lv_ldc2 (v := 316452499) hx hb hown (hts (.constantLong RX12 261 (316452499)) (wl_mem 16 rfl)) dX12_valley_37 ?_
              have bz941 := htz454 1
              have bz942 := htz454 0
              have hPc := hP.sub (ws' := (List.flatten [(wMO qO k widthO manyO cellsO movedO (qTa 0) (qLi 0) (qHa 0) (qBr 0) (qCa 0) (qWa 0) (qFr 0) (qAc 0) isKeptO loadNowO byNowO rowO memoryO whoseO deepNowO brokenByO brokenAtO goesByO comesToO sagMoreO creakOfO wipedByO deepAtO sagAtO loadAtO orderRowO oftenO lossOneO lossOtherO vz455 tz454 mz453 gz452)] ++ List.flatten [(wmTa qTa k aTa)])) [0, 8] rfl
              have hC : [0, 8].map (fun i => (List.flatten [(wMO qO k widthO manyO cellsO movedO (qTa 0) (qLi 0) (qHa 0) (qBr 0) (qCa 0) (qWa 0) (qFr 0) (qAc 0) isKeptO loadNowO byNowO rowO memoryO whoseO deepNowO brokenByO brokenAtO goesByO comesToO sagMoreO creakOfO wipedByO deepAtO sagAtO loadAtO orderRowO oftenO lossOneO lossOtherO vz455 tz454 mz453 gz452), (wmLi qLi k az451), (wmHa qHa k hz450), (wmBr qBr k az447), (wmCa qCa k pz448), (wmWa qWa k jz456), (wmFr qFr k az449), (wmAc qAc k iAc)] ++ List.flatten [(wmTa qTa k aTa)])[i]?) = (List.flatten [(wMO qO k widthO manyO cellsO movedO (qTa 0) (qLi 0) (qHa 0) (qBr 0) (qCa 0) (qWa 0) (qFr 0) (qAc 0) isKeptO loadNowO byNowO rowO memoryO whoseO deepNowO brokenByO brokenAtO goesByO comesToO sagMoreO creakOfO wipedByO deepAtO sagAtO loadAtO orderRowO oftenO lossOneO lossOtherO vz455 tz454 mz453 gz452)] ++ List.flatten [(wmTa qTa k aTa)]).map some := rfl
              have hDc := hD.sub [0, 8] (by decide) hC
              have hFc := va_free hD hS hA [0, 8] hC
              refine va_callv (va_runV (As := [.long 316452499]) (rest := []) ⟨hx, hb, hml, hown, hts⟩ (c_X12_asks l dC dI k H.size qO widthO manyO cellsO movedO (qLi 0) (qHa 0) (qBr 0) (qCa 0) (qWa 0) (qFr 0) (qAc 0) isKeptO loadNowO byNowO rowO memoryO whoseO deepNowO brokenByO brokenAtO goesByO comesToO sagMoreO creakOfO wipedByO deepAtO sagAtO loadAtO orderRowO oftenO lossOneO lossOtherO vz455 tz454 mz453 gz452 qTa aTa (316452499 : Int64) htz454 hmz453 (by show (tz454 1).toInt ≤ (tz454 0).toInt; omega)) (cwV 1 hts (gk_V (wl_mem 17 rfl) (wl_mem 18 rfl) (wl_mem 19 rfl) (wl_mem 4 rfl) (fun w h => List.mem_cons_of_mem _ (List.mem_append_right _ (List.mem_append_right _ (List.mem_append_right _ (List.mem_append_right _ (List.mem_append_right _ (List.mem_append_right _ (List.mem_append_left _ h)))))))) wkg_c_X12_asks) rfl rfl rfl (by decide +kernel) ⟨Nat.le_of_ble_eq_true rfl, Nat.le_of_ble_eq_true rfl⟩) ⟨fun a U g mk q => by obtain ⟨q0, q1, qP, qK, qD⟩ := q; exact ⟨q0, q1, qP, va_K.moved (u := U) (U := U.calling g mk a) (Vm.Alike.refl U.vm) qK, qD⟩, va_recv hK hPc (ci := 12) (q0 := 0) rfl rfl, fun U hU hW => ⟨rfl, by rw [hU], by rw [hU]; exact hPc, va_K.moved hW.alike hK, hDc.weaken (fun _ _ _ _ => trivial)⟩⟩ rfl rfl hl.1 rfl (lv_room (Nat.le_of_ble_eq_true rfl)) dX12_valley_40 ⟨Nat.le_of_ble_eq_true rfl, Nat.le_of_ble_eq_true rfl⟩) hS (fun q _ h => hFc q h) hFc (fun u t H1 locs ht hvm gz943 hB hz1 hk1 hS => ?_)
              obtain ⟨vz945, tz946, mz947, gz948, htz946, hmz947, pz949, pz950, pz951, hP1⟩ := hB
              rw [ht] at hP1
              obtain ⟨hP, hD⟩ := w_callR hP hD hk1 hP1 [0] rfl rfl (wk_memC [8] rfl) rfl [some 0, none, none, none, none, none, none, none] rfl rfl
              clear hPc hC hDc hFc hk1 hP1
              generalize H1 = H at hP hS ⊢
              have hP : va_P (dC, dI) vwCl (List.flatten [(wMO qO k widthO manyO cellsO movedO (qTa 0) (qLi 0) (qHa 0) (qBr 0) (qCa 0) (qWa 0) (qFr 0) (qAc 0) isKeptO loadNowO byNowO rowO memoryO whoseO deepNowO brokenByO brokenAtO goesByO comesToO sagMoreO creakOfO wipedByO deepAtO sagAtO loadAtO orderRowO oftenO lossOneO lossOtherO vz945 tz946 mz947 gz948), (wmLi qLi k az451), (wmHa qHa k hz450), (wmBr qBr k az447), (wmCa qCa k pz448), (wmWa qWa k jz456), (wmFr qFr k az449), (wmAc qAc k iAc)] ++ List.flatten [(wmTa qTa k aTa)]) H := hP
              have hD : va_D A (List.flatten [(wMO qO k widthO manyO cellsO movedO (qTa 0) (qLi 0) (qHa 0) (qBr 0) (qCa 0) (qWa 0) (qFr 0) (qAc 0) isKeptO loadNowO byNowO rowO memoryO whoseO deepNowO brokenByO brokenAtO goesByO comesToO sagMoreO creakOfO wipedByO deepAtO sagAtO loadAtO orderRowO oftenO lossOneO lossOtherO vz945 tz946 mz947 gz948), (wmLi qLi k az451), (wmHa qHa k hz450), (wmBr qBr k az447), (wmCa qCa k pz448), (wmWa qWa k jz456), (wmFr qFr k az449), (wmAc qAc k iAc)] ++ List.flatten [(wmTa qTa k aTa)]) := hD
              refine W.widen (k := 0) (n := 0) (Nat.le_refl 0) (Nat.le_refl 0) ?_
              have pz949 : (tz946 0).toInt = (tz454 0).toInt := pz949
              have pz950 : (tz946 1).toInt ≤ (tz454 0).toInt := pz950
              have pz951 : (tz454 1).toInt ≤ (tz946 1).toInt := pz951
              refine lv_aload_n hx hb dX12_valley_43 rfl (lv_at hl 0 rfl) ?_
              refine lv_iconst (v := 0) hx hb dX12_valley_44 (by decide) ?_
              refine lv_aload_n hx hb dX12_valley_45 rfl (lv_at hl 0 rfl) ?_
              refine lv_ldc2 (v := 8798) hx hb hown (hts (.constantLong RX12 263 (8798)) (wl_mem 20 rfl)) dX12_valley_46 ?_
              refine lv_iconst (v := 0) hx hb dX12_valley_49 (by decide) ?_
              refine lv_iconst (v := 3) hx hb dX12_valley_50 (by decide) ?_
              have bz952 := htz946 1
              have bz953 := htz946 0
              have hPc := hP.sub (ws' := (List.flatten [(wMO qO k widthO manyO cellsO movedO (qTa 0) (qLi 0) (qHa 0) (qBr 0) (qCa 0) (qWa 0) (qFr 0) (qAc 0) isKeptO loadNowO byNowO rowO memoryO whoseO deepNowO brokenByO brokenAtO goesByO comesToO sagMoreO creakOfO wipedByO deepAtO sagAtO loadAtO orderRowO oftenO lossOneO lossOtherO vz945 tz946 mz947 gz948)] ++ List.flatten [(wmTa qTa k aTa)])) [0, 8] rfl
              have hC : [0, 8].map (fun i => (List.flatten [(wMO qO k widthO manyO cellsO movedO (qTa 0) (qLi 0) (qHa 0) (qBr 0) (qCa 0) (qWa 0) (qFr 0) (qAc 0) isKeptO loadNowO byNowO rowO memoryO whoseO deepNowO brokenByO brokenAtO goesByO comesToO sagMoreO creakOfO wipedByO deepAtO sagAtO loadAtO orderRowO oftenO lossOneO lossOtherO vz945 tz946 mz947 gz948), (wmLi qLi k az451), (wmHa qHa k hz450), (wmBr qBr k az447), (wmCa qCa k pz448), (wmWa qWa k jz456), (wmFr qFr k az449), (wmAc qAc k iAc)] ++ List.flatten [(wmTa qTa k aTa)])[i]?) = (List.flatten [(wMO qO k widthO manyO cellsO movedO (qTa 0) (qLi 0) (qHa 0) (qBr 0) (qCa 0) (qWa 0) (qFr 0) (qAc 0) isKeptO loadNowO byNowO rowO memoryO whoseO deepNowO brokenByO brokenAtO goesByO comesToO sagMoreO creakOfO wipedByO deepAtO sagAtO loadAtO orderRowO oftenO lossOneO lossOtherO vz945 tz946 mz947 gz948)] ++ List.flatten [(wmTa qTa k aTa)]).map some := rfl
              have hDc := hD.sub [0, 8] (by decide) hC
              have hFc := va_free hD hS hA [0, 8] hC
              refine va_calli (va_runV (As := [.long 8798, .int 0, .int 3]) (rest := [.int 0, .ref (qO 0)]) ⟨hx, hb, hml, hown, hts⟩ (c_X12_number_ l dC dI k H.size qO widthO manyO cellsO movedO (qLi 0) (qHa 0) (qBr 0) (qCa 0) (qWa 0) (qFr 0) (qAc 0) isKeptO loadNowO byNowO rowO memoryO whoseO deepNowO brokenByO brokenAtO goesByO comesToO sagMoreO creakOfO wipedByO deepAtO sagAtO loadAtO orderRowO oftenO lossOneO lossOtherO vz945 tz946 mz947 gz948 qTa aTa (8798 : Int64) (0 : Int32) (3 : Int32) htz946 hmz947 (by show (tz946 1).toInt ≤ (tz946 0).toInt; omega)) (cwV 3 hts (gk_V (wl_mem 21 rfl) (wl_mem 22 rfl) (wl_mem 23 rfl) (wl_mem 4 rfl) (fun w h => List.mem_cons_of_mem _ (List.mem_append_right _ (List.mem_append_right _ (List.mem_append_right _ (List.mem_append_right _ (List.mem_append_right _ (List.mem_append_right _ (List.mem_append_right _ (List.mem_append_left _ h))))))))) wkg_c_X12_number_) rfl rfl rfl (by decide +kernel) ⟨Nat.le_of_ble_eq_true rfl, Nat.le_of_ble_eq_true rfl⟩) ⟨fun a U g mk q => by obtain ⟨q0, q1, qP, qK, qD⟩ := q; exact ⟨q0, q1, qP, va_K.moved (u := U) (U := U.calling g mk a) (Vm.Alike.refl U.vm) qK, qD⟩, va_recv hK hPc (ci := 12) (q0 := 0) rfl rfl, fun U hU hW => ⟨rfl, by rw [hU], by rw [hU]; exact hPc, va_K.moved hW.alike hK, hDc.weaken (fun _ _ _ _ => trivial)⟩⟩ rfl rfl hl.1 rfl (lv_room (Nat.le_of_ble_eq_true rfl)) dX12_valley_51 ⟨Nat.le_of_ble_eq_true rfl, Nat.le_of_ble_eq_true rfl⟩) hS (fun q _ h => hFc q h) hFc (fun rz955 u t H1 locs ht hvm gz954 hB hz1 hk1 hS => ?_)
              obtain ⟨vz956, tz957, mz958, gz959, htz957, hmz958, pz960, pz961, pz962, hP1⟩ := hB
              rw [ht] at hP1
              obtain ⟨hP, hD⟩ := w_callR hP hD hk1 hP1 [0] rfl rfl (wk_memC [8] rfl) rfl [some 0, none, none, none, none, none, none, none] rfl rfl
              clear hPc hC hDc hFc hk1 hP1
              generalize H1 = H at hP hS ⊢
              have hP : va_P (dC, dI) vwCl (List.flatten [(wMO qO k widthO manyO cellsO movedO (qTa 0) (qLi 0) (qHa 0) (qBr 0) (qCa 0) (qWa 0) (qFr 0) (qAc 0) isKeptO loadNowO byNowO rowO memoryO whoseO deepNowO brokenByO brokenAtO goesByO comesToO sagMoreO creakOfO wipedByO deepAtO sagAtO loadAtO orderRowO oftenO lossOneO lossOtherO vz956 tz957 mz958 gz959), (wmLi qLi k az451), (wmHa qHa k hz450), (wmBr qBr k az447), (wmCa qCa k pz448), (wmWa qWa k jz456), (wmFr qFr k az449), (wmAc qAc k iAc)] ++ List.flatten [(wmTa qTa k aTa)]) H := hP
              have hD : va_D A (List.flatten [(wMO qO k widthO manyO cellsO movedO (qTa 0) (qLi 0) (qHa 0) (qBr 0) (qCa 0) (qWa 0) (qFr 0) (qAc 0) isKeptO loadNowO byNowO rowO memoryO whoseO deepNowO brokenByO brokenAtO goesByO comesToO sagMoreO creakOfO wipedByO deepAtO sagAtO loadAtO orderRowO oftenO lossOneO lossOtherO vz956 tz957 mz958 gz959), (wmLi qLi k az451), (wmHa qHa k hz450), (wmBr qBr k az447), (wmCa qCa k pz448), (wmWa qWa k jz456), (wmFr qFr k az449), (wmAc qAc k iAc)] ++ List.flatten [(wmTa qTa k aTa)]) := hD
              refine W.widen (k := 0) (n := 0) (Nat.le_refl 0) (Nat.le_refl 0) ?_
              have pz960 : (tz957 0).toInt = (tz946 0).toInt := pz960
              have pz961 : (tz957 1).toInt ≤ (tz946 0).toInt := pz961
              have pz962 : (tz946 1).toInt ≤ (tz957 1).toInt := pz962
              have pz963 := gz954
              have pz963 : rz955.toInt = (0 : Int) ∨ ((0 : Int) ≤ rz955.toInt ∧ rz955.toInt ≤ (3 : Int)) := pz963
              have hPc := hP.sub (ws' := (List.flatten [(wmHa qHa k hz450)] ++ List.flatten [(wMO qO k widthO manyO cellsO movedO (qTa 0) (qLi 0) (qHa 0) (qBr 0) (qCa 0) (qWa 0) (qFr 0) (qAc 0) isKeptO loadNowO byNowO rowO memoryO whoseO deepNowO brokenByO brokenAtO goesByO comesToO sagMoreO creakOfO wipedByO deepAtO sagAtO loadAtO orderRowO oftenO lossOneO lossOtherO vz956 tz957 mz958 gz959)])) [2, 0] rfl
              have hC : [2, 0].map (fun i => (List.flatten [(wMO qO k widthO manyO cellsO movedO (qTa 0) (qLi 0) (qHa 0) (qBr 0) (qCa 0) (qWa 0) (qFr 0) (qAc 0) isKeptO loadNowO byNowO rowO memoryO whoseO deepNowO brokenByO brokenAtO goesByO comesToO sagMoreO creakOfO wipedByO deepAtO sagAtO loadAtO orderRowO oftenO lossOneO lossOtherO vz956 tz957 mz958 gz959), (wmLi qLi k az451), (wmHa qHa k hz450), (wmBr qBr k az447), (wmCa qCa k pz448), (wmWa qWa k jz456), (wmFr qFr k az449), (wmAc qAc k iAc)] ++ List.flatten [(wmTa qTa k aTa)])[i]?) = (List.flatten [(wmHa qHa k hz450)] ++ List.flatten [(wMO qO k widthO manyO cellsO movedO (qTa 0) (qLi 0) (qHa 0) (qBr 0) (qCa 0) (qWa 0) (qFr 0) (qAc 0) isKeptO loadNowO byNowO rowO memoryO whoseO deepNowO brokenByO brokenAtO goesByO comesToO sagMoreO creakOfO wipedByO deepAtO sagAtO loadAtO orderRowO oftenO lossOneO lossOtherO vz956 tz957 mz958 gz959)]).map some := rfl
              have hDc := hD.sub [2, 0] (by decide) hC
              have hFc := va_free hD hS hA [2, 0] hC
              refine va_callv (va_runV (As := [.int 0, .int rz955]) (rest := []) ⟨hx, hb, hml, hown, hts⟩ (c_tells_0 l dC dI k H.size qO widthO manyO cellsO movedO (qTa 0) (qLi 0) (qBr 0) (qCa 0) (qWa 0) (qFr 0) (qAc 0) isKeptO loadNowO byNowO rowO memoryO whoseO deepNowO brokenByO brokenAtO goesByO comesToO sagMoreO creakOfO wipedByO deepAtO sagAtO loadAtO orderRowO oftenO lossOneO lossOtherO vz956 tz957 mz958 gz959 qHa hz450 rz955 htz957 hmz958 hhz450) (cwV 2 hts (gk_V (wl_mem 24 rfl) (wl_mem 25 rfl) (wl_mem 26 rfl) (wl_mem 4 rfl) (fun w h => List.mem_cons_of_mem _ (List.mem_append_right _ (List.mem_append_right _ (List.mem_append_right _ (List.mem_append_right _ (List.mem_append_right _ (List.mem_append_right _ (List.mem_append_right _ (List.mem_append_right _ (List.mem_append_left _ h)))))))))) wkg_c_tells_0) rfl rfl rfl (by decide +kernel) ⟨Nat.le_of_ble_eq_true rfl, Nat.le_of_ble_eq_true rfl⟩) ⟨fun a U g mk q => by obtain ⟨q0, q1, qP, qK, qD⟩ := q; exact ⟨q0, q1, qP, va_K.moved (u := U) (U := U.calling g mk a) (Vm.Alike.refl U.vm) qK, qD⟩, va_recv hK hPc (ci := 12) (q0 := 1) rfl rfl, fun U hU hW => ⟨rfl, by rw [hU], by rw [hU]; exact hPc, va_K.moved hW.alike hK, hDc.weaken (fun _ _ _ _ => trivial)⟩⟩ rfl rfl hl.1 rfl (lv_room (Nat.le_of_ble_eq_true rfl)) dX12_valley_54 ⟨Nat.le_of_ble_eq_true rfl, Nat.le_of_ble_eq_true rfl⟩) hS (fun q _ h => hFc q h) hFc (fun u t H1 locs ht hvm gz964 hB hz1 hk1 hS => ?_)
              obtain ⟨hz966, hhz966, hP1⟩ := hB
              rw [ht] at hP1
              obtain ⟨hP, hD⟩ := w_callR hP hD hk1 hP1 [2] rfl rfl (wk_memC [0] rfl) rfl [none, none, some 0, none, none, none, none, none] rfl rfl
              clear hPc hC hDc hFc hk1 hP1
              generalize H1 = H at hP hS ⊢
              have hP : va_P (dC, dI) vwCl (List.flatten [(wMO qO k widthO manyO cellsO movedO (qTa 0) (qLi 0) (qHa 0) (qBr 0) (qCa 0) (qWa 0) (qFr 0) (qAc 0) isKeptO loadNowO byNowO rowO memoryO whoseO deepNowO brokenByO brokenAtO goesByO comesToO sagMoreO creakOfO wipedByO deepAtO sagAtO loadAtO orderRowO oftenO lossOneO lossOtherO vz956 tz957 mz958 gz959), (wmLi qLi k az451), (wmHa qHa k hz966), (wmBr qBr k az447), (wmCa qCa k pz448), (wmWa qWa k jz456), (wmFr qFr k az449), (wmAc qAc k iAc)] ++ List.flatten [(wmTa qTa k aTa)]) H := hP
              have hD : va_D A (List.flatten [(wMO qO k widthO manyO cellsO movedO (qTa 0) (qLi 0) (qHa 0) (qBr 0) (qCa 0) (qWa 0) (qFr 0) (qAc 0) isKeptO loadNowO byNowO rowO memoryO whoseO deepNowO brokenByO brokenAtO goesByO comesToO sagMoreO creakOfO wipedByO deepAtO sagAtO loadAtO orderRowO oftenO lossOneO lossOtherO vz956 tz957 mz958 gz959), (wmLi qLi k az451), (wmHa qHa k hz966), (wmBr qBr k az447), (wmCa qCa k pz448), (wmWa qWa k jz456), (wmFr qFr k az449), (wmAc qAc k iAc)] ++ List.flatten [(wmTa qTa k aTa)]) := hD
              refine W.widen (k := 0) (n := 0) (Nat.le_refl 0) (Nat.le_refl 0) ?_
              refine lv_aload_n hx hb dX12_valley_57 rfl (lv_at hl 0 rfl) ?_
              refine lv_iconst (v := 1) hx hb dX12_valley_58 (by decide) ?_
              refine lv_aload_n hx hb dX12_valley_59 rfl (lv_at hl 0 rfl) ?_
              refine lv_ldc2 (v := 3554408) hx hb hown (hts (.constantLong RX12 246 (3554408)) (wl_mem 27 rfl)) dX12_valley_60 ?_
              refine lv_iconst (v := 1) hx hb dX12_valley_63 (by decide) ?_
              refine lv_bipush (v := 50) hx hb dX12_valley_64 (by decide) ?_
              have bz967 := htz957 1
              have bz968 := htz957 0
              have hPc := hP.sub (ws' := (List.flatten [(wMO qO k widthO manyO cellsO movedO (qTa 0) (qLi 0) (qHa 0) (qBr 0) (qCa 0) (qWa 0) (qFr 0) (qAc 0) isKeptO loadNowO byNowO rowO memoryO whoseO deepNowO brokenByO brokenAtO goesByO comesToO sagMoreO creakOfO wipedByO deepAtO sagAtO loadAtO orderRowO oftenO lossOneO lossOtherO vz956 tz957 mz958 gz959)] ++ List.flatten [(wmTa qTa k aTa)])) [0, 8] rfl
              have hC : [0, 8].map (fun i => (List.flatten [(wMO qO k widthO manyO cellsO movedO (qTa 0) (qLi 0) (qHa 0) (qBr 0) (qCa 0) (qWa 0) (qFr 0) (qAc 0) isKeptO loadNowO byNowO rowO memoryO whoseO deepNowO brokenByO brokenAtO goesByO comesToO sagMoreO creakOfO wipedByO deepAtO sagAtO loadAtO orderRowO oftenO lossOneO lossOtherO vz956 tz957 mz958 gz959), (wmLi qLi k az451), (wmHa qHa k hz966), (wmBr qBr k az447), (wmCa qCa k pz448), (wmWa qWa k jz456), (wmFr qFr k az449), (wmAc qAc k iAc)] ++ List.flatten [(wmTa qTa k aTa)])[i]?) = (List.flatten [(wMO qO k widthO manyO cellsO movedO (qTa 0) (qLi 0) (qHa 0) (qBr 0) (qCa 0) (qWa 0) (qFr 0) (qAc 0) isKeptO loadNowO byNowO rowO memoryO whoseO deepNowO brokenByO brokenAtO goesByO comesToO sagMoreO creakOfO wipedByO deepAtO sagAtO loadAtO orderRowO oftenO lossOneO lossOtherO vz956 tz957 mz958 gz959)] ++ List.flatten [(wmTa qTa k aTa)]).map some := rfl
              have hDc := hD.sub [0, 8] (by decide) hC
              have hFc := va_free hD hS hA [0, 8] hC
              refine va_calli (va_runV (As := [.long 3554408, .int 1, .int 50]) (rest := [.int 1, .ref (qO 0)]) ⟨hx, hb, hml, hown, hts⟩ (c_X12_number_ l dC dI k H.size qO widthO manyO cellsO movedO (qLi 0) (qHa 0) (qBr 0) (qCa 0) (qWa 0) (qFr 0) (qAc 0) isKeptO loadNowO byNowO rowO memoryO whoseO deepNowO brokenByO brokenAtO goesByO comesToO sagMoreO creakOfO wipedByO deepAtO sagAtO loadAtO orderRowO oftenO lossOneO lossOtherO vz956 tz957 mz958 gz959 qTa aTa (3554408 : Int64) (1 : Int32) (50 : Int32) htz957 hmz958 (by show (tz957 1).toInt ≤ (tz957 0).toInt; omega)) (cwV 3 hts (gk_V (wl_mem 21 rfl) (wl_mem 22 rfl) (wl_mem 23 rfl) (wl_mem 4 rfl) (fun w h => List.mem_cons_of_mem _ (List.mem_append_right _ (List.mem_append_right _ (List.mem_append_right _ (List.mem_append_right _ (List.mem_append_right _ (List.mem_append_right _ (List.mem_append_right _ (List.mem_append_left _ h))))))))) wkg_c_X12_number_) rfl rfl rfl (by decide +kernel) ⟨Nat.le_of_ble_eq_true rfl, Nat.le_of_ble_eq_true rfl⟩) ⟨fun a U g mk q => by obtain ⟨q0, q1, qP, qK, qD⟩ := q; exact ⟨q0, q1, qP, va_K.moved (u := U) (U := U.calling g mk a) (Vm.Alike.refl U.vm) qK, qD⟩, va_recv hK hPc (ci := 12) (q0 := 0) rfl rfl, fun U hU hW => ⟨rfl, by rw [hU], by rw [hU]; exact hPc, va_K.moved hW.alike hK, hDc.weaken (fun _ _ _ _ => trivial)⟩⟩ rfl rfl hl.1 rfl (lv_room (Nat.le_of_ble_eq_true rfl)) dX12_valley_66 ⟨Nat.le_of_ble_eq_true rfl, Nat.le_of_ble_eq_true rfl⟩) hS (fun q _ h => hFc q h) hFc (fun rz970 u t H1 locs ht hvm gz969 hB hz1 hk1 hS => ?_)
              obtain ⟨vz971, tz972, mz973, gz974, htz972, hmz973, pz975, pz976, pz977, hP1⟩ := hB
              rw [ht] at hP1
              obtain ⟨hP, hD⟩ := w_callR hP hD hk1 hP1 [0] rfl rfl (wk_memC [8] rfl) rfl [some 0, none, none, none, none, none, none, none] rfl rfl
              clear hPc hC hDc hFc hk1 hP1
              generalize H1 = H at hP hS ⊢
              have hP : va_P (dC, dI) vwCl (List.flatten [(wMO qO k widthO manyO cellsO movedO (qTa 0) (qLi 0) (qHa 0) (qBr 0) (qCa 0) (qWa 0) (qFr 0) (qAc 0) isKeptO loadNowO byNowO rowO memoryO whoseO deepNowO brokenByO brokenAtO goesByO comesToO sagMoreO creakOfO wipedByO deepAtO sagAtO loadAtO orderRowO oftenO lossOneO lossOtherO vz971 tz972 mz973 gz974), (wmLi qLi k az451), (wmHa qHa k hz966), (wmBr qBr k az447), (wmCa qCa k pz448), (wmWa qWa k jz456), (wmFr qFr k az449), (wmAc qAc k iAc)] ++ List.flatten [(wmTa qTa k aTa)]) H := hP
              have hD : va_D A (List.flatten [(wMO qO k widthO manyO cellsO movedO (qTa 0) (qLi 0) (qHa 0) (qBr 0) (qCa 0) (qWa 0) (qFr 0) (qAc 0) isKeptO loadNowO byNowO rowO memoryO whoseO deepNowO brokenByO brokenAtO goesByO comesToO sagMoreO creakOfO wipedByO deepAtO sagAtO loadAtO orderRowO oftenO lossOneO lossOtherO vz971 tz972 mz973 gz974), (wmLi qLi k az451), (wmHa qHa k hz966), (wmBr qBr k az447), (wmCa qCa k pz448), (wmWa qWa k jz456), (wmFr qFr k az449), (wmAc qAc k iAc)] ++ List.flatten [(wmTa qTa k aTa)]) := hD
              refine W.widen (k := 0) (n := 0) (Nat.le_refl 0) (Nat.le_refl 0) ?_
              have pz975 : (tz972 0).toInt = (tz957 0).toInt := pz975
              have pz976 : (tz972 1).toInt ≤ (tz957 0).toInt := pz976
              have pz977 : (tz957 1).toInt ≤ (tz972 1).toInt := pz977
              have pz978 := gz969
              have pz978 : rz970.toInt = (1 : Int) ∨ ((1 : Int) ≤ rz970.toInt ∧ rz970.toInt ≤ (50 : Int)) := pz978
              have hPc := hP.sub (ws' := (List.flatten [(wmHa qHa k hz966)] ++ List.flatten [(wMO qO k widthO manyO cellsO movedO (qTa 0) (qLi 0) (qHa 0) (qBr 0) (qCa 0) (qWa 0) (qFr 0) (qAc 0) isKeptO loadNowO byNowO rowO memoryO whoseO deepNowO brokenByO brokenAtO goesByO comesToO sagMoreO creakOfO wipedByO deepAtO sagAtO loadAtO orderRowO oftenO lossOneO lossOtherO vz971 tz972 mz973 gz974)])) [2, 0] rfl
              have hC : [2, 0].map (fun i => (List.flatten [(wMO qO k widthO manyO cellsO movedO (qTa 0) (qLi 0) (qHa 0) (qBr 0) (qCa 0) (qWa 0) (qFr 0) (qAc 0) isKeptO loadNowO byNowO rowO memoryO whoseO deepNowO brokenByO brokenAtO goesByO comesToO sagMoreO creakOfO wipedByO deepAtO sagAtO loadAtO orderRowO oftenO lossOneO lossOtherO vz971 tz972 mz973 gz974), (wmLi qLi k az451), (wmHa qHa k hz966), (wmBr qBr k az447), (wmCa qCa k pz448), (wmWa qWa k jz456), (wmFr qFr k az449), (wmAc qAc k iAc)] ++ List.flatten [(wmTa qTa k aTa)])[i]?) = (List.flatten [(wmHa qHa k hz966)] ++ List.flatten [(wMO qO k widthO manyO cellsO movedO (qTa 0) (qLi 0) (qHa 0) (qBr 0) (qCa 0) (qWa 0) (qFr 0) (qAc 0) isKeptO loadNowO byNowO rowO memoryO whoseO deepNowO brokenByO brokenAtO goesByO comesToO sagMoreO creakOfO wipedByO deepAtO sagAtO loadAtO orderRowO oftenO lossOneO lossOtherO vz971 tz972 mz973 gz974)]).map some := rfl
              have hDc := hD.sub [2, 0] (by decide) hC
              have hFc := va_free hD hS hA [2, 0] hC
              refine va_callv (va_runV (As := [.int 1, .int rz970]) (rest := []) ⟨hx, hb, hml, hown, hts⟩ (c_tells_1 l dC dI k H.size qO widthO manyO cellsO movedO (qTa 0) (qLi 0) (qBr 0) (qCa 0) (qWa 0) (qFr 0) (qAc 0) isKeptO loadNowO byNowO rowO memoryO whoseO deepNowO brokenByO brokenAtO goesByO comesToO sagMoreO creakOfO wipedByO deepAtO sagAtO loadAtO orderRowO oftenO lossOneO lossOtherO vz971 tz972 mz973 gz974 qHa hz966 rz970 htz972 hmz973 hhz966) (cwV 2 hts (gk_V (wl_mem 24 rfl) (wl_mem 25 rfl) (wl_mem 26 rfl) (wl_mem 4 rfl) (fun w h => List.mem_cons_of_mem _ (List.mem_append_right _ (List.mem_append_right _ (List.mem_append_right _ (List.mem_append_right _ (List.mem_append_right _ (List.mem_append_right _ (List.mem_append_right _ (List.mem_append_right _ (List.mem_append_right _ (List.mem_append_left _ h))))))))))) wkg_c_tells_1) rfl rfl rfl (by decide +kernel) ⟨Nat.le_of_ble_eq_true rfl, Nat.le_of_ble_eq_true rfl⟩) ⟨fun a U g mk q => by obtain ⟨q0, q1, qP, qK, qD⟩ := q; exact ⟨q0, q1, qP, va_K.moved (u := U) (U := U.calling g mk a) (Vm.Alike.refl U.vm) qK, qD⟩, va_recv hK hPc (ci := 12) (q0 := 1) rfl rfl, fun U hU hW => ⟨rfl, by rw [hU], by rw [hU]; exact hPc, va_K.moved hW.alike hK, hDc.weaken (fun _ _ _ _ => trivial)⟩⟩ rfl rfl hl.1 rfl (lv_room (Nat.le_of_ble_eq_true rfl)) dX12_valley_69 ⟨Nat.le_of_ble_eq_true rfl, Nat.le_of_ble_eq_true rfl⟩) hS (fun q _ h => hFc q h) hFc (fun u t H1 locs ht hvm gz979 hB hz1 hk1 hS => ?_)
              obtain ⟨hz981, hhz981, hP1⟩ := hB
              rw [ht] at hP1
              obtain ⟨hP, hD⟩ := w_callR hP hD hk1 hP1 [2] rfl rfl (wk_memC [0] rfl) rfl [none, none, some 0, none, none, none, none, none] rfl rfl
              clear hPc hC hDc hFc hk1 hP1
              generalize H1 = H at hP hS ⊢
              have hP : va_P (dC, dI) vwCl (List.flatten [(wMO qO k widthO manyO cellsO movedO (qTa 0) (qLi 0) (qHa 0) (qBr 0) (qCa 0) (qWa 0) (qFr 0) (qAc 0) isKeptO loadNowO byNowO rowO memoryO whoseO deepNowO brokenByO brokenAtO goesByO comesToO sagMoreO creakOfO wipedByO deepAtO sagAtO loadAtO orderRowO oftenO lossOneO lossOtherO vz971 tz972 mz973 gz974), (wmLi qLi k az451), (wmHa qHa k hz981), (wmBr qBr k az447), (wmCa qCa k pz448), (wmWa qWa k jz456), (wmFr qFr k az449), (wmAc qAc k iAc)] ++ List.flatten [(wmTa qTa k aTa)]) H := hP
              have hD : va_D A (List.flatten [(wMO qO k widthO manyO cellsO movedO (qTa 0) (qLi 0) (qHa 0) (qBr 0) (qCa 0) (qWa 0) (qFr 0) (qAc 0) isKeptO loadNowO byNowO rowO memoryO whoseO deepNowO brokenByO brokenAtO goesByO comesToO sagMoreO creakOfO wipedByO deepAtO sagAtO loadAtO orderRowO oftenO lossOneO lossOtherO vz971 tz972 mz973 gz974), (wmLi qLi k az451), (wmHa qHa k hz981), (wmBr qBr k az447), (wmCa qCa k pz448), (wmWa qWa k jz456), (wmFr qFr k az449), (wmAc qAc k iAc)] ++ List.flatten [(wmTa qTa k aTa)]) := hD
              refine W.widen (k := 0) (n := 0) (Nat.le_refl 0) (Nat.le_refl 0) ?_
              refine lv_aload_n hx hb dX12_valley_72 rfl (lv_at hl 0 rfl) ?_
              refine lv_iconst (v := 2) hx hb dX12_valley_73 (by decide) ?_
              refine lv_aload_n hx hb dX12_valley_74 rfl (lv_at hl 0 rfl) ?_
              refine lv_ldc2 (v := 298288) hx hb hown (hts (.constantLong RX12 265 (298288)) (wl_mem 28 rfl)) dX12_valley_75 ?_
              refine lv_iconst (v := 0) hx hb dX12_valley_78 (by decide) ?_
              refine lv_bipush (v := 10) hx hb dX12_valley_79 (by decide) ?_
              have bz982 := htz972 1
              have bz983 := htz972 0
              have hPc := hP.sub (ws' := (List.flatten [(wMO qO k widthO manyO cellsO movedO (qTa 0) (qLi 0) (qHa 0) (qBr 0) (qCa 0) (qWa 0) (qFr 0) (qAc 0) isKeptO loadNowO byNowO rowO memoryO whoseO deepNowO brokenByO brokenAtO goesByO comesToO sagMoreO creakOfO wipedByO deepAtO sagAtO loadAtO orderRowO oftenO lossOneO lossOtherO vz971 tz972 mz973 gz974)] ++ List.flatten [(wmTa qTa k aTa)])) [0, 8] rfl
              have hC : [0, 8].map (fun i => (List.flatten [(wMO qO k widthO manyO cellsO movedO (qTa 0) (qLi 0) (qHa 0) (qBr 0) (qCa 0) (qWa 0) (qFr 0) (qAc 0) isKeptO loadNowO byNowO rowO memoryO whoseO deepNowO brokenByO brokenAtO goesByO comesToO sagMoreO creakOfO wipedByO deepAtO sagAtO loadAtO orderRowO oftenO lossOneO lossOtherO vz971 tz972 mz973 gz974), (wmLi qLi k az451), (wmHa qHa k hz981), (wmBr qBr k az447), (wmCa qCa k pz448), (wmWa qWa k jz456), (wmFr qFr k az449), (wmAc qAc k iAc)] ++ List.flatten [(wmTa qTa k aTa)])[i]?) = (List.flatten [(wMO qO k widthO manyO cellsO movedO (qTa 0) (qLi 0) (qHa 0) (qBr 0) (qCa 0) (qWa 0) (qFr 0) (qAc 0) isKeptO loadNowO byNowO rowO memoryO whoseO deepNowO brokenByO brokenAtO goesByO comesToO sagMoreO creakOfO wipedByO deepAtO sagAtO loadAtO orderRowO oftenO lossOneO lossOtherO vz971 tz972 mz973 gz974)] ++ List.flatten [(wmTa qTa k aTa)]).map some := rfl
              have hDc := hD.sub [0, 8] (by decide) hC
              have hFc := va_free hD hS hA [0, 8] hC
              refine va_calli (va_runV (As := [.long 298288, .int 0, .int 10]) (rest := [.int 2, .ref (qO 0)]) ⟨hx, hb, hml, hown, hts⟩ (c_X12_number_ l dC dI k H.size qO widthO manyO cellsO movedO (qLi 0) (qHa 0) (qBr 0) (qCa 0) (qWa 0) (qFr 0) (qAc 0) isKeptO loadNowO byNowO rowO memoryO whoseO deepNowO brokenByO brokenAtO goesByO comesToO sagMoreO creakOfO wipedByO deepAtO sagAtO loadAtO orderRowO oftenO lossOneO lossOtherO vz971 tz972 mz973 gz974 qTa aTa (298288 : Int64) (0 : Int32) (10 : Int32) htz972 hmz973 (by show (tz972 1).toInt ≤ (tz972 0).toInt; omega)) (cwV 3 hts (gk_V (wl_mem 21 rfl) (wl_mem 22 rfl) (wl_mem 23 rfl) (wl_mem 4 rfl) (fun w h => List.mem_cons_of_mem _ (List.mem_append_right _ (List.mem_append_right _ (List.mem_append_right _ (List.mem_append_right _ (List.mem_append_right _ (List.mem_append_right _ (List.mem_append_right _ (List.mem_append_left _ h))))))))) wkg_c_X12_number_) rfl rfl rfl (by decide +kernel) ⟨Nat.le_of_ble_eq_true rfl, Nat.le_of_ble_eq_true rfl⟩) ⟨fun a U g mk q => by obtain ⟨q0, q1, qP, qK, qD⟩ := q; exact ⟨q0, q1, qP, va_K.moved (u := U) (U := U.calling g mk a) (Vm.Alike.refl U.vm) qK, qD⟩, va_recv hK hPc (ci := 12) (q0 := 0) rfl rfl, fun U hU hW => ⟨rfl, by rw [hU], by rw [hU]; exact hPc, va_K.moved hW.alike hK, hDc.weaken (fun _ _ _ _ => trivial)⟩⟩ rfl rfl hl.1 rfl (lv_room (Nat.le_of_ble_eq_true rfl)) dX12_valley_81 ⟨Nat.le_of_ble_eq_true rfl, Nat.le_of_ble_eq_true rfl⟩) hS (fun q _ h => hFc q h) hFc (fun rz985 u t H1 locs ht hvm gz984 hB hz1 hk1 hS => ?_)
              obtain ⟨vz986, tz987, mz988, gz989, htz987, hmz988, pz990, pz991, pz992, hP1⟩ := hB
              rw [ht] at hP1
              obtain ⟨hP, hD⟩ := w_callR hP hD hk1 hP1 [0] rfl rfl (wk_memC [8] rfl) rfl [some 0, none, none, none, none, none, none, none] rfl rfl
              clear hPc hC hDc hFc hk1 hP1
              generalize H1 = H at hP hS ⊢
              have hP : va_P (dC, dI) vwCl (List.flatten [(wMO qO k widthO manyO cellsO movedO (qTa 0) (qLi 0) (qHa 0) (qBr 0) (qCa 0) (qWa 0) (qFr 0) (qAc 0) isKeptO loadNowO byNowO rowO memoryO whoseO deepNowO brokenByO brokenAtO goesByO comesToO sagMoreO creakOfO wipedByO deepAtO sagAtO loadAtO orderRowO oftenO lossOneO lossOtherO vz986 tz987 mz988 gz989), (wmLi qLi k az451), (wmHa qHa k hz981), (wmBr qBr k az447), (wmCa qCa k pz448), (wmWa qWa k jz456), (wmFr qFr k az449), (wmAc qAc k iAc)] ++ List.flatten [(wmTa qTa k aTa)]) H := hP
              have hD : va_D A (List.flatten [(wMO qO k widthO manyO cellsO movedO (qTa 0) (qLi 0) (qHa 0) (qBr 0) (qCa 0) (qWa 0) (qFr 0) (qAc 0) isKeptO loadNowO byNowO rowO memoryO whoseO deepNowO brokenByO brokenAtO goesByO comesToO sagMoreO creakOfO wipedByO deepAtO sagAtO loadAtO orderRowO oftenO lossOneO lossOtherO vz986 tz987 mz988 gz989), (wmLi qLi k az451), (wmHa qHa k hz981), (wmBr qBr k az447), (wmCa qCa k pz448), (wmWa qWa k jz456), (wmFr qFr k az449), (wmAc qAc k iAc)] ++ List.flatten [(wmTa qTa k aTa)]) := hD
              refine W.widen (k := 0) (n := 0) (Nat.le_refl 0) (Nat.le_refl 0) ?_
              have pz990 : (tz987 0).toInt = (tz972 0).toInt := pz990
              have pz991 : (tz987 1).toInt ≤ (tz972 0).toInt := pz991
              have pz992 : (tz972 1).toInt ≤ (tz987 1).toInt := pz992
              have pz993 := gz984
              have pz993 : rz985.toInt = (0 : Int) ∨ ((0 : Int) ≤ rz985.toInt ∧ rz985.toInt ≤ (10 : Int)) := pz993
              have hPc := hP.sub (ws' := (List.flatten [(wmHa qHa k hz981)] ++ List.flatten [(wMO qO k widthO manyO cellsO movedO (qTa 0) (qLi 0) (qHa 0) (qBr 0) (qCa 0) (qWa 0) (qFr 0) (qAc 0) isKeptO loadNowO byNowO rowO memoryO whoseO deepNowO brokenByO brokenAtO goesByO comesToO sagMoreO creakOfO wipedByO deepAtO sagAtO loadAtO orderRowO oftenO lossOneO lossOtherO vz986 tz987 mz988 gz989)])) [2, 0] rfl
              have hC : [2, 0].map (fun i => (List.flatten [(wMO qO k widthO manyO cellsO movedO (qTa 0) (qLi 0) (qHa 0) (qBr 0) (qCa 0) (qWa 0) (qFr 0) (qAc 0) isKeptO loadNowO byNowO rowO memoryO whoseO deepNowO brokenByO brokenAtO goesByO comesToO sagMoreO creakOfO wipedByO deepAtO sagAtO loadAtO orderRowO oftenO lossOneO lossOtherO vz986 tz987 mz988 gz989), (wmLi qLi k az451), (wmHa qHa k hz981), (wmBr qBr k az447), (wmCa qCa k pz448), (wmWa qWa k jz456), (wmFr qFr k az449), (wmAc qAc k iAc)] ++ List.flatten [(wmTa qTa k aTa)])[i]?) = (List.flatten [(wmHa qHa k hz981)] ++ List.flatten [(wMO qO k widthO manyO cellsO movedO (qTa 0) (qLi 0) (qHa 0) (qBr 0) (qCa 0) (qWa 0) (qFr 0) (qAc 0) isKeptO loadNowO byNowO rowO memoryO whoseO deepNowO brokenByO brokenAtO goesByO comesToO sagMoreO creakOfO wipedByO deepAtO sagAtO loadAtO orderRowO oftenO lossOneO lossOtherO vz986 tz987 mz988 gz989)]).map some := rfl
              have hDc := hD.sub [2, 0] (by decide) hC
              have hFc := va_free hD hS hA [2, 0] hC
              refine va_callv (va_runV (As := [.int 2, .int rz985]) (rest := []) ⟨hx, hb, hml, hown, hts⟩ (c_tells_2 l dC dI k H.size qO widthO manyO cellsO movedO (qTa 0) (qLi 0) (qBr 0) (qCa 0) (qWa 0) (qFr 0) (qAc 0) isKeptO loadNowO byNowO rowO memoryO whoseO deepNowO brokenByO brokenAtO goesByO comesToO sagMoreO creakOfO wipedByO deepAtO sagAtO loadAtO orderRowO oftenO lossOneO lossOtherO vz986 tz987 mz988 gz989 qHa hz981 rz985 htz987 hmz988 hhz981) (cwV 2 hts (gk_V (wl_mem 24 rfl) (wl_mem 25 rfl) (wl_mem 26 rfl) (wl_mem 4 rfl) (fun w h => List.mem_cons_of_mem _ (List.mem_append_right _ (List.mem_append_right _ (List.mem_append_right _ (List.mem_append_right _ (List.mem_append_right _ (List.mem_append_right _ (List.mem_append_right _ (List.mem_append_right _ (List.mem_append_right _ (List.mem_append_right _ (List.mem_append_left _ h)))))))))))) wkg_c_tells_2) rfl rfl rfl (by decide +kernel) ⟨Nat.le_of_ble_eq_true rfl, Nat.le_of_ble_eq_true rfl⟩) ⟨fun a U g mk q => by obtain ⟨q0, q1, qP, qK, qD⟩ := q; exact ⟨q0, q1, qP, va_K.moved (u := U) (U := U.calling g mk a) (Vm.Alike.refl U.vm) qK, qD⟩, va_recv hK hPc (ci := 12) (q0 := 1) rfl rfl, fun U hU hW => ⟨rfl, by rw [hU], by rw [hU]; exact hPc, va_K.moved hW.alike hK, hDc.weaken (fun _ _ _ _ => trivial)⟩⟩ rfl rfl hl.1 rfl (lv_room (Nat.le_of_ble_eq_true rfl)) dX12_valley_84 ⟨Nat.le_of_ble_eq_true rfl, Nat.le_of_ble_eq_true rfl⟩) hS (fun q _ h => hFc q h) hFc (fun u t H1 locs ht hvm gz994 hB hz1 hk1 hS => ?_)
              obtain ⟨hz996, hhz996, hP1⟩ := hB
              rw [ht] at hP1
              obtain ⟨hP, hD⟩ := w_callR hP hD hk1 hP1 [2] rfl rfl (wk_memC [0] rfl) rfl [none, none, some 0, none, none, none, none, none] rfl rfl
              clear hPc hC hDc hFc hk1 hP1
              generalize H1 = H at hP hS ⊢
              have hP : va_P (dC, dI) vwCl (List.flatten [(wMO qO k widthO manyO cellsO movedO (qTa 0) (qLi 0) (qHa 0) (qBr 0) (qCa 0) (qWa 0) (qFr 0) (qAc 0) isKeptO loadNowO byNowO rowO memoryO whoseO deepNowO brokenByO brokenAtO goesByO comesToO sagMoreO creakOfO wipedByO deepAtO sagAtO loadAtO orderRowO oftenO lossOneO lossOtherO vz986 tz987 mz988 gz989), (wmLi qLi k az451), (wmHa qHa k hz996), (wmBr qBr k az447), (wmCa qCa k pz448), (wmWa qWa k jz456), (wmFr qFr k az449), (wmAc qAc k iAc)] ++ List.flatten [(wmTa qTa k aTa)]) H := hP
              have hD : va_D A (List.flatten [(wMO qO k widthO manyO cellsO movedO (qTa 0) (qLi 0) (qHa 0) (qBr 0) (qCa 0) (qWa 0) (qFr 0) (qAc 0) isKeptO loadNowO byNowO rowO memoryO whoseO deepNowO brokenByO brokenAtO goesByO comesToO sagMoreO creakOfO wipedByO deepAtO sagAtO loadAtO orderRowO oftenO lossOneO lossOtherO vz986 tz987 mz988 gz989), (wmLi qLi k az451), (wmHa qHa k hz996), (wmBr qBr k az447), (wmCa qCa k pz448), (wmWa qWa k jz456), (wmFr qFr k az449), (wmAc qAc k iAc)] ++ List.flatten [(wmTa qTa k aTa)]) := hD
              refine W.widen (k := 0) (n := 0) (Nat.le_refl 0) (Nat.le_refl 0) ?_
              refine lv_goto (tgt := 94) hx hb dX12_valley_87 (by decide) ?_
              exact ct94_kz846 H locs ls az447 pz448 az449 hz996 gz989 mz988 tz987 vz986 jz456  hpz448 hhz996 hmz988 htz987 hjz456 (by show (tz454 1).toInt ≤ (tz987 1).toInt; omega) (by show (tz987 1).toInt ≤ (tz987 0).toInt; omega) hP hD hS (lv_sub hl [0] rfl)
  exact lp13_kz457 _ H locs ls aBr pCa aFr hz4 az3 gz10 mz9 tz8 vz7 jWa (Nat.lt_succ_self _) hpCa hhz4 hmz9 htz8 hjWa (by show (tz8 1).toInt ≤ (tz8 0).toInt; omega) hP hD hS (lv_sub hl [0] rfl)
