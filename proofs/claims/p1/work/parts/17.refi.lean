theorem cr_loop {p : Program} {l : Launch} {e : Env} {R : Room} {s : State} {m : MethodId} {args : Array Value} {below : List Frame} {meth : Method} {c : Code} {dC : Nat → ClassId} {dI : Nat → Nat → Nat} {A : Nat → Prop} {Q : State → Prop} {cells slots : Nat} (hx : p.tables.exec = Jvm.exec) (hb : c.code = cX12_copyRow) {k0 : ClassId} (hK : va_K (dC, dI) vwCl [(k0, .int)] s) (h0 N n a b : Nat) (h1 : n * a + n ≤ N) (h2 : n * b + n ≤ N) (hN : N < 1000000)
    (hend : ∀ (H : Heap) (locs : List Loc) (ls : Array Slot), va_P (dC, dI) vwCl [(h0, .inl (k0, N, .inl (fun _ => 0)))] H → va_D A [(h0, .inl (k0, N, .inl (fun _ => 0)))] → va_S A s.heap H locs → W p l e R s m args below meth c H locs cells slots Q (F0 m 31 ls [])) :
    ∀ (d i : Nat), i + d = n → ∀ (H : Heap) (locs : List Loc) (ls : Array Slot), va_P (dC, dI) vwCl [(h0, .inl (k0, N, .inl (fun _ => 0)))] H → va_D A [(h0, .inl (k0, N, .inl (fun _ => 0)))] → va_S A s.heap H locs → lv_has ls 5 [(4, .int (nI i)), (0, .ref h0), (1, .int (nI n)), (2, .int (nI a)), (3, .int (nI b))] → W p l e R s m args below meth c H locs cells slots Q (F0 m 3 ls []) := by
  intro d
  induction d with
  | zero =>
    intro i hi H locs ls hP hD hS hl
    refine lv_iload hx hb dX12_copyRow_3 (lv_at hl 0 rfl) ?_
    refine lv_iload_n hx hb dX12_copyRow_5 rfl (lv_at hl 2 rfl) ?_
    refine lv_icmp_ge (tgt := 31) hx hb dX12_copyRow_6 (by decide) (fun c1 => ?_) (fun c1 => ?_)
    · exact hend H locs ls hP hD hS
    · exact absurd (nI_le (by omega) (by omega)) c1
  | succ d ih =>
    intro i hi H locs ls hP hD hS hl
    have hin : i < n := by omega
    have hn : n < 2 ^ 31 := by omega
    refine lv_iload hx hb dX12_copyRow_3 (lv_at hl 0 rfl) ?_
    refine lv_iload_n hx hb dX12_copyRow_5 rfl (lv_at hl 2 rfl) ?_
    refine lv_icmp_ge (tgt := 31) hx hb dX12_copyRow_6 (by decide) (fun c1 => ?_) (fun c1 => ?_)
    · exact absurd c1 (nI_ge hin hn)
    · refine lv_aload_n hx hb dX12_copyRow_9 rfl (lv_at hl 1 rfl) ?_
      refine lv_iload_n hx hb dX12_copyRow_10 rfl (lv_at hl 2 rfl) ?_
      refine lv_iload_n hx hb dX12_copyRow_11 rfl (lv_at hl 4 rfl) ?_
      refine lv_imul hx hb dX12_copyRow_12 ?_
      refine lv_iload hx hb dX12_copyRow_13 (lv_at hl 0 rfl) ?_
      refine lv_iadd hx hb dX12_copyRow_15 ?_
      refine lv_topi (fun x ex => ?_)
      obtain rfl : x = nI (n * b + i) := by rw [ex, pk_mul, nI_add]
      refine lv_aload_n hx hb dX12_copyRow_16 rfl (lv_at hl 1 rfl) ?_
      refine lv_iload_n hx hb dX12_copyRow_17 rfl (lv_at hl 2 rfl) ?_
      refine lv_iload_n hx hb dX12_copyRow_18 rfl (lv_at hl 3 rfl) ?_
      refine lv_imul hx hb dX12_copyRow_19 ?_
      refine lv_iload hx hb dX12_copyRow_20 (lv_at hl 0 rfl) ?_
      refine lv_iadd hx hb dX12_copyRow_22 ?_
      refine lv_topi (fun y ey => ?_)
      obtain rfl : y = nI (n * a + i) := by rw [ey, pk_mul, nI_add]
      refine va_iald hx hb hK hP 0 0 rfl rfl (vp_in_nI (by omega) (by omega)) dX12_copyRow_23 ?_
      refine W.eq (g2 := F0 m 24 ls [.int 0, .int (nI (n * b + i)), .ref h0]) rfl ?_
      refine va_iast hx hb hK hP hD hS 0 0 rfl rfl (vp_in_nI (by omega) (by omega)) dX12_copyRow_24 (fun H locs hP hD hS => ?_)
      rw [upd0] at hP hD
      have hP : va_P (dC, dI) vwCl [(h0, .inl (k0, N, .inl (fun _ => 0)))] H := hP
      have hD : va_D A [(h0, .inl (k0, N, .inl (fun _ => 0)))] := hD
      refine lv_iinc (v := nI (i + 1)) (lv' := [(4, .int (nI (i + 1))), (0, .ref h0), (1, .int (nI n)), (2, .int (nI a)), (3, .int (nI b))]) hx hb dX12_copyRow_25 hl (k := 0) rfl (by rw [nI_succ]; rfl) (by decide) rfl (fun ls hl => ?_)
      refine lv_goto (tgt := 3) hx hb dX12_copyRow_28 (by decide) ?_
      exact ih (i + 1) (by omega) H locs ls hP hD hS hl
def wk_f_X12_copyRow_lines_40 : List Cond := .code yX12_copyRow cX12_copyRow 5 none :: ([] ++ ([]))
theorem wkg_f_X12_copyRow_lines_40 : wk_f_X12_copyRow_lines_40.all goodWord = true := by decide +kernel
set_option maxHeartbeats 4000000 in
set_option maxRecDepth 100000 in
theorem f_X12_copyRow_lines_40 (l : Launch) (dC : Nat → ClassId) (dI : Nat → Nat → Nat) (sz : Nat) (h0 : Nat) (k0 : ClassId) : Met l yX12_copyRow wk_f_X12_copyRow_lines_40 ({ frames := 0, cells := 0, slots := 0, locals := 0 }) (va_Pc [.ref h0, .int 1, .int 4, .int 0] (fun U => U.heap.size = sz ∧ va_P (dC, dI) vwCl [(h0, .inl (k0, 5, .inl (fun _ => 0)))] U.heap ∧ va_K (dC, dI) vwCl [(k0, .int)] U ∧ va_D (fun _ => True) [(h0, .inl (k0, 5, .inl (fun _ => 0)))])) (va_Qv (fun _ : Unit => True) (fun (_ : Unit) (t : State) => va_P (dC, dI) vwCl [(h0, .inl (k0, 5, .inl (fun _ => 0)))] t.heap ∧ va_K (dC, dI) vwCl [(k0, .int)] t ∧ va_D (va_A [(h0, .inl (k0, 5, .inl (fun _ => 0)))] sz) [(h0, .inl (k0, 5, .inl (fun _ => 0)))]) (va_A [(h0, .inl (k0, 5, .inl (fun _ => 0)))] sz)) 0 0 (va_A [(h0, .inl (k0, 5, .inl (fun _ => 0)))] sz) := by
  refine Met.ofW (cc := cX12_copyRow) (maxL := 5) (ret := none) (by decide) rfl ?_
  intro p e s m args below meth c s₁ B hml hv
  obtain ⟨rfl, hsz, hP, hK, hD0⟩ := hv
  have hx := B.exec
  have hb := B.bytes
  have hr := B.returns
  have hts := atoms_spec (ws := wk_f_X12_copyRow_lines_40) B.pre
  have hown : s.vm.findClass RX12 = some m.cls := findClass_of_methodNamed B.named
  have hlocks := B.notSynchronized
  subst hsz
  have hD := hD0.self (sz := s.heap.size)
  generalize hAe : va_A [(h0, .inl (k0, 5, .inl (fun _ => 0)))] s.heap.size = A at hD ⊢
  have hA : ∀ q : Nat, s.heap.size ≤ q → A q := fun q h => by rw [← hAe]; exact Or.inr h
  have hS : va_S A s.heap s.heap [] := va_S.rf
  have hP : va_P (dC, dI) vwCl [(h0, .inl (k0, 5, .inl (fun _ => 0)))] s.heap := hP
  have hl := lv_entry ([.ref h0, .int 1, .int 4, .int 0]) (n := 5) (Nat.le_of_ble_eq_true rfl)
  rw [lg_entry_eq]
  generalize (lg_sl ([.ref h0, .int 1, .int 4, .int 0]) ++ List.replicate (5 - (lg_sl ([.ref h0, .int 1, .int 4, .int 0])).length) Slot.unset).toArray = ls at hl ⊢
  have hl : lv_has ls 5 [(0, .ref h0), (1, .int 1), (2, .int 4), (3, .int 0)] := hl
  refine lv_iconst (v := 0) hx hb dX12_copyRow_0 (by decide) ?_
  refine lv_istore (lv' := [(4, .int 0), (0, .ref h0), (1, .int 1), (2, .int 4), (3, .int 0)]) hx hb dX12_copyRow_1 hl (by decide) rfl (fun ls hl => ?_)
  refine cr_loop hx hb hK h0 5 1 4 0 (by decide) (by decide) (by decide) (fun H locs ls hP hD hS => ?_) 1 0 (by decide) s.heap _ ls hP hD hS (lv_sub hl [0, 1, 2, 3, 4] rfl)
  have hP9 := hP.sub (ws' := [(h0, .inl (k0, 5, .inl (fun _ => 0)))]) [0] rfl
  have hD9 := hD.sub (ws' := [(h0, .inl (k0, 5, .inl (fun _ => 0)))]) [0] (by decide) rfl
  have hK9 := hK.sub (tys' := [(k0, .int)]) [0] rfl
  exact W.vret hx hb hr (fun t ht hW => ⟨⟨(), rfl, trivial, by rw [ht]; exact hP9, va_K.moved hW.alike hK9, hD9⟩, hS.F ht⟩) hS.2.2 dX12_copyRow_31
def wk_f_X12_copyRow_has_40 : List Cond := .code yX12_copyRow cX12_copyRow 5 none :: ([] ++ ([]))
theorem wkg_f_X12_copyRow_has_40 : wk_f_X12_copyRow_has_40.all goodWord = true := by decide +kernel
set_option maxHeartbeats 4000000 in
set_option maxRecDepth 100000 in
theorem f_X12_copyRow_has_40 (l : Launch) (dC : Nat → ClassId) (dI : Nat → Nat → Nat) (sz : Nat) (h0 : Nat) (k0 : ClassId) : Met l yX12_copyRow wk_f_X12_copyRow_has_40 ({ frames := 0, cells := 0, slots := 0, locals := 0 }) (va_Pc [.ref h0, .int 8, .int 4, .int 0] (fun U => U.heap.size = sz ∧ va_P (dC, dI) vwCl [(h0, .inl (k0, 40, .inl (fun _ => 0)))] U.heap ∧ va_K (dC, dI) vwCl [(k0, .int)] U ∧ va_D (fun _ => True) [(h0, .inl (k0, 40, .inl (fun _ => 0)))])) (va_Qv (fun _ : Unit => True) (fun (_ : Unit) (t : State) => va_P (dC, dI) vwCl [(h0, .inl (k0, 40, .inl (fun _ => 0)))] t.heap ∧ va_K (dC, dI) vwCl [(k0, .int)] t ∧ va_D (va_A [(h0, .inl (k0, 40, .inl (fun _ => 0)))] sz) [(h0, .inl (k0, 40, .inl (fun _ => 0)))]) (va_A [(h0, .inl (k0, 40, .inl (fun _ => 0)))] sz)) 0 0 (va_A [(h0, .inl (k0, 40, .inl (fun _ => 0)))] sz) := by
  refine Met.ofW (cc := cX12_copyRow) (maxL := 5) (ret := none) (by decide) rfl ?_
  intro p e s m args below meth c s₁ B hml hv
  obtain ⟨rfl, hsz, hP, hK, hD0⟩ := hv
  have hx := B.exec
  have hb := B.bytes
  have hr := B.returns
  have hts := atoms_spec (ws := wk_f_X12_copyRow_has_40) B.pre
  have hown : s.vm.findClass RX12 = some m.cls := findClass_of_methodNamed B.named
  have hlocks := B.notSynchronized
  subst hsz
  have hD := hD0.self (sz := s.heap.size)
  generalize hAe : va_A [(h0, .inl (k0, 40, .inl (fun _ => 0)))] s.heap.size = A at hD ⊢
  have hA : ∀ q : Nat, s.heap.size ≤ q → A q := fun q h => by rw [← hAe]; exact Or.inr h
  have hS : va_S A s.heap s.heap [] := va_S.rf
  have hP : va_P (dC, dI) vwCl [(h0, .inl (k0, 40, .inl (fun _ => 0)))] s.heap := hP
  have hl := lv_entry ([.ref h0, .int 8, .int 4, .int 0]) (n := 5) (Nat.le_of_ble_eq_true rfl)
  rw [lg_entry_eq]
  generalize (lg_sl ([.ref h0, .int 8, .int 4, .int 0]) ++ List.replicate (5 - (lg_sl ([.ref h0, .int 8, .int 4, .int 0])).length) Slot.unset).toArray = ls at hl ⊢
  have hl : lv_has ls 5 [(0, .ref h0), (1, .int 8), (2, .int 4), (3, .int 0)] := hl
  refine lv_iconst (v := 0) hx hb dX12_copyRow_0 (by decide) ?_
  refine lv_istore (lv' := [(4, .int 0), (0, .ref h0), (1, .int 8), (2, .int 4), (3, .int 0)]) hx hb dX12_copyRow_1 hl (by decide) rfl (fun ls hl => ?_)
  refine cr_loop hx hb hK h0 40 8 4 0 (by decide) (by decide) (by decide) (fun H locs ls hP hD hS => ?_) 8 0 (by decide) s.heap _ ls hP hD hS (lv_sub hl [0, 1, 2, 3, 4] rfl)
  have hP9 := hP.sub (ws' := [(h0, .inl (k0, 40, .inl (fun _ => 0)))]) [0] rfl
  have hD9 := hD.sub (ws' := [(h0, .inl (k0, 40, .inl (fun _ => 0)))]) [0] (by decide) rfl
  have hK9 := hK.sub (tys' := [(k0, .int)]) [0] rfl
  exact W.vret hx hb hr (fun t ht hW => ⟨⟨(), rfl, trivial, by rw [ht]; exact hP9, va_K.moved hW.alike hK9, hD9⟩, hS.F ht⟩) hS.2.2 dX12_copyRow_31
def wk_f_X12_copyRow_bridge_40 : List Cond := .code yX12_copyRow cX12_copyRow 5 none :: ([] ++ ([]))
theorem wkg_f_X12_copyRow_bridge_40 : wk_f_X12_copyRow_bridge_40.all goodWord = true := by decide +kernel
set_option maxHeartbeats 4000000 in
set_option maxRecDepth 100000 in
theorem f_X12_copyRow_bridge_40 (l : Launch) (dC : Nat → ClassId) (dI : Nat → Nat → Nat) (sz : Nat) (h0 : Nat) (k0 : ClassId) : Met l yX12_copyRow wk_f_X12_copyRow_bridge_40 ({ frames := 0, cells := 0, slots := 0, locals := 0 }) (va_Pc [.ref h0, .int 6, .int 4, .int 0] (fun U => U.heap.size = sz ∧ va_P (dC, dI) vwCl [(h0, .inl (k0, 30, .inl (fun _ => 0)))] U.heap ∧ va_K (dC, dI) vwCl [(k0, .int)] U ∧ va_D (fun _ => True) [(h0, .inl (k0, 30, .inl (fun _ => 0)))])) (va_Qv (fun _ : Unit => True) (fun (_ : Unit) (t : State) => va_P (dC, dI) vwCl [(h0, .inl (k0, 30, .inl (fun _ => 0)))] t.heap ∧ va_K (dC, dI) vwCl [(k0, .int)] t ∧ va_D (va_A [(h0, .inl (k0, 30, .inl (fun _ => 0)))] sz) [(h0, .inl (k0, 30, .inl (fun _ => 0)))]) (va_A [(h0, .inl (k0, 30, .inl (fun _ => 0)))] sz)) 0 0 (va_A [(h0, .inl (k0, 30, .inl (fun _ => 0)))] sz) := by
  refine Met.ofW (cc := cX12_copyRow) (maxL := 5) (ret := none) (by decide) rfl ?_
  intro p e s m args below meth c s₁ B hml hv
  obtain ⟨rfl, hsz, hP, hK, hD0⟩ := hv
  have hx := B.exec
  have hb := B.bytes
  have hr := B.returns
  have hts := atoms_spec (ws := wk_f_X12_copyRow_bridge_40) B.pre
  have hown : s.vm.findClass RX12 = some m.cls := findClass_of_methodNamed B.named
  have hlocks := B.notSynchronized
  subst hsz
  have hD := hD0.self (sz := s.heap.size)
  generalize hAe : va_A [(h0, .inl (k0, 30, .inl (fun _ => 0)))] s.heap.size = A at hD ⊢
  have hA : ∀ q : Nat, s.heap.size ≤ q → A q := fun q h => by rw [← hAe]; exact Or.inr h
  have hS : va_S A s.heap s.heap [] := va_S.rf
  have hP : va_P (dC, dI) vwCl [(h0, .inl (k0, 30, .inl (fun _ => 0)))] s.heap := hP
  have hl := lv_entry ([.ref h0, .int 6, .int 4, .int 0]) (n := 5) (Nat.le_of_ble_eq_true rfl)
  rw [lg_entry_eq]
  generalize (lg_sl ([.ref h0, .int 6, .int 4, .int 0]) ++ List.replicate (5 - (lg_sl ([.ref h0, .int 6, .int 4, .int 0])).length) Slot.unset).toArray = ls at hl ⊢
  have hl : lv_has ls 5 [(0, .ref h0), (1, .int 6), (2, .int 4), (3, .int 0)] := hl
  refine lv_iconst (v := 0) hx hb dX12_copyRow_0 (by decide) ?_
  refine lv_istore (lv' := [(4, .int 0), (0, .ref h0), (1, .int 6), (2, .int 4), (3, .int 0)]) hx hb dX12_copyRow_1 hl (by decide) rfl (fun ls hl => ?_)
  refine cr_loop hx hb hK h0 30 6 4 0 (by decide) (by decide) (by decide) (fun H locs ls hP hD hS => ?_) 6 0 (by decide) s.heap _ ls hP hD hS (lv_sub hl [0, 1, 2, 3, 4] rfl)
  have hP9 := hP.sub (ws' := [(h0, .inl (k0, 30, .inl (fun _ => 0)))]) [0] rfl
  have hD9 := hD.sub (ws' := [(h0, .inl (k0, 30, .inl (fun _ => 0)))]) [0] (by decide) rfl
  have hK9 := hK.sub (tys' := [(k0, .int)]) [0] rfl
  exact W.vret hx hb hr (fun t ht hW => ⟨⟨(), rfl, trivial, by rw [ht]; exact hP9, va_K.moved hW.alike hK9, hD9⟩, hS.F ht⟩) hS.2.2 dX12_copyRow_31
def wk_f_X12_copyRow_cart_40 : List Cond := .code yX12_copyRow cX12_copyRow 5 none :: ([] ++ ([]))
theorem wkg_f_X12_copyRow_cart_40 : wk_f_X12_copyRow_cart_40.all goodWord = true := by decide +kernel
set_option maxHeartbeats 4000000 in
set_option maxRecDepth 100000 in
theorem f_X12_copyRow_cart_40 (l : Launch) (dC : Nat → ClassId) (dI : Nat → Nat → Nat) (sz : Nat) (h0 : Nat) (k0 : ClassId) : Met l yX12_copyRow wk_f_X12_copyRow_cart_40 ({ frames := 0, cells := 0, slots := 0, locals := 0 }) (va_Pc [.ref h0, .int 14, .int 4, .int 0] (fun U => U.heap.size = sz ∧ va_P (dC, dI) vwCl [(h0, .inl (k0, 70, .inl (fun _ => 0)))] U.heap ∧ va_K (dC, dI) vwCl [(k0, .int)] U ∧ va_D (fun _ => True) [(h0, .inl (k0, 70, .inl (fun _ => 0)))])) (va_Qv (fun _ : Unit => True) (fun (_ : Unit) (t : State) => va_P (dC, dI) vwCl [(h0, .inl (k0, 70, .inl (fun _ => 0)))] t.heap ∧ va_K (dC, dI) vwCl [(k0, .int)] t ∧ va_D (va_A [(h0, .inl (k0, 70, .inl (fun _ => 0)))] sz) [(h0, .inl (k0, 70, .inl (fun _ => 0)))]) (va_A [(h0, .inl (k0, 70, .inl (fun _ => 0)))] sz)) 0 0 (va_A [(h0, .inl (k0, 70, .inl (fun _ => 0)))] sz) := by
  refine Met.ofW (cc := cX12_copyRow) (maxL := 5) (ret := none) (by decide) rfl ?_
  intro p e s m args below meth c s₁ B hml hv
  obtain ⟨rfl, hsz, hP, hK, hD0⟩ := hv
  have hx := B.exec
  have hb := B.bytes
  have hr := B.returns
  have hts := atoms_spec (ws := wk_f_X12_copyRow_cart_40) B.pre
  have hown : s.vm.findClass RX12 = some m.cls := findClass_of_methodNamed B.named
  have hlocks := B.notSynchronized
  subst hsz
  have hD := hD0.self (sz := s.heap.size)
  generalize hAe : va_A [(h0, .inl (k0, 70, .inl (fun _ => 0)))] s.heap.size = A at hD ⊢
  have hA : ∀ q : Nat, s.heap.size ≤ q → A q := fun q h => by rw [← hAe]; exact Or.inr h
  have hS : va_S A s.heap s.heap [] := va_S.rf
  have hP : va_P (dC, dI) vwCl [(h0, .inl (k0, 70, .inl (fun _ => 0)))] s.heap := hP
  have hl := lv_entry ([.ref h0, .int 14, .int 4, .int 0]) (n := 5) (Nat.le_of_ble_eq_true rfl)
  rw [lg_entry_eq]
  generalize (lg_sl ([.ref h0, .int 14, .int 4, .int 0]) ++ List.replicate (5 - (lg_sl ([.ref h0, .int 14, .int 4, .int 0])).length) Slot.unset).toArray = ls at hl ⊢
  have hl : lv_has ls 5 [(0, .ref h0), (1, .int 14), (2, .int 4), (3, .int 0)] := hl
  refine lv_iconst (v := 0) hx hb dX12_copyRow_0 (by decide) ?_
  refine lv_istore (lv' := [(4, .int 0), (0, .ref h0), (1, .int 14), (2, .int 4), (3, .int 0)]) hx hb dX12_copyRow_1 hl (by decide) rfl (fun ls hl => ?_)
  refine cr_loop hx hb hK h0 70 14 4 0 (by decide) (by decide) (by decide) (fun H locs ls hP hD hS => ?_) 14 0 (by decide) s.heap _ ls hP hD hS (lv_sub hl [0, 1, 2, 3, 4] rfl)
  have hP9 := hP.sub (ws' := [(h0, .inl (k0, 70, .inl (fun _ => 0)))]) [0] rfl
  have hD9 := hD.sub (ws' := [(h0, .inl (k0, 70, .inl (fun _ => 0)))]) [0] (by decide) rfl
  have hK9 := hK.sub (tys' := [(k0, .int)]) [0] rfl
  exact W.vret hx hb hr (fun t ht hW => ⟨⟨(), rfl, trivial, by rw [ht]; exact hP9, va_K.moved hW.alike hK9, hD9⟩, hS.F ht⟩) hS.2.2 dX12_copyRow_31
def wk_f_X12_copyRow_ward_40 : List Cond := .code yX12_copyRow cX12_copyRow 5 none :: ([] ++ ([]))
theorem wkg_f_X12_copyRow_ward_40 : wk_f_X12_copyRow_ward_40.all goodWord = true := by decide +kernel
set_option maxHeartbeats 4000000 in
set_option maxRecDepth 100000 in
theorem f_X12_copyRow_ward_40 (l : Launch) (dC : Nat → ClassId) (dI : Nat → Nat → Nat) (sz : Nat) (h0 : Nat) (k0 : ClassId) : Met l yX12_copyRow wk_f_X12_copyRow_ward_40 ({ frames := 0, cells := 0, slots := 0, locals := 0 }) (va_Pc [.ref h0, .int 15, .int 4, .int 0] (fun U => U.heap.size = sz ∧ va_P (dC, dI) vwCl [(h0, .inl (k0, 75, .inl (fun _ => 0)))] U.heap ∧ va_K (dC, dI) vwCl [(k0, .int)] U ∧ va_D (fun _ => True) [(h0, .inl (k0, 75, .inl (fun _ => 0)))])) (va_Qv (fun _ : Unit => True) (fun (_ : Unit) (t : State) => va_P (dC, dI) vwCl [(h0, .inl (k0, 75, .inl (fun _ => 0)))] t.heap ∧ va_K (dC, dI) vwCl [(k0, .int)] t ∧ va_D (va_A [(h0, .inl (k0, 75, .inl (fun _ => 0)))] sz) [(h0, .inl (k0, 75, .inl (fun _ => 0)))]) (va_A [(h0, .inl (k0, 75, .inl (fun _ => 0)))] sz)) 0 0 (va_A [(h0, .inl (k0, 75, .inl (fun _ => 0)))] sz) := by
  refine Met.ofW (cc := cX12_copyRow) (maxL := 5) (ret := none) (by decide) rfl ?_
  intro p e s m args below meth c s₁ B hml hv
  obtain ⟨rfl, hsz, hP, hK, hD0⟩ := hv
  have hx := B.exec
  have hb := B.bytes
  have hr := B.returns
  have hts := atoms_spec (ws := wk_f_X12_copyRow_ward_40) B.pre
  have hown : s.vm.findClass RX12 = some m.cls := findClass_of_methodNamed B.named
  have hlocks := B.notSynchronized
  subst hsz
  have hD := hD0.self (sz := s.heap.size)
  generalize hAe : va_A [(h0, .inl (k0, 75, .inl (fun _ => 0)))] s.heap.size = A at hD ⊢
  have hA : ∀ q : Nat, s.heap.size ≤ q → A q := fun q h => by rw [← hAe]; exact Or.inr h
  have hS : va_S A s.heap s.heap [] := va_S.rf
  have hP : va_P (dC, dI) vwCl [(h0, .inl (k0, 75, .inl (fun _ => 0)))] s.heap := hP
  have hl := lv_entry ([.ref h0, .int 15, .int 4, .int 0]) (n := 5) (Nat.le_of_ble_eq_true rfl)
  rw [lg_entry_eq]
  generalize (lg_sl ([.ref h0, .int 15, .int 4, .int 0]) ++ List.replicate (5 - (lg_sl ([.ref h0, .int 15, .int 4, .int 0])).length) Slot.unset).toArray = ls at hl ⊢
  have hl : lv_has ls 5 [(0, .ref h0), (1, .int 15), (2, .int 4), (3, .int 0)] := hl
  refine lv_iconst (v := 0) hx hb dX12_copyRow_0 (by decide) ?_
  refine lv_istore (lv' := [(4, .int 0), (0, .ref h0), (1, .int 15), (2, .int 4), (3, .int 0)]) hx hb dX12_copyRow_1 hl (by decide) rfl (fun ls hl => ?_)
  refine cr_loop hx hb hK h0 75 15 4 0 (by decide) (by decide) (by decide) (fun H locs ls hP hD hS => ?_) 15 0 (by decide) s.heap _ ls hP hD hS (lv_sub hl [0, 1, 2, 3, 4] rfl)
  have hP9 := hP.sub (ws' := [(h0, .inl (k0, 75, .inl (fun _ => 0)))]) [0] rfl
  have hD9 := hD.sub (ws' := [(h0, .inl (k0, 75, .inl (fun _ => 0)))]) [0] (by decide) rfl
  have hK9 := hK.sub (tys' := [(k0, .int)]) [0] rfl
  exact W.vret hx hb hr (fun t ht hW => ⟨⟨(), rfl, trivial, by rw [ht]; exact hP9, va_K.moved hW.alike hK9, hD9⟩, hS.F ht⟩) hS.2.2 dX12_copyRow_31
def wk_f_X12_copyRow_frostAt_40 : List Cond := .code yX12_copyRow cX12_copyRow 5 none :: ([] ++ ([]))
theorem wkg_f_X12_copyRow_frostAt_40 : wk_f_X12_copyRow_frostAt_40.all goodWord = true := by decide +kernel
set_option maxHeartbeats 4000000 in
set_option maxRecDepth 100000 in
theorem f_X12_copyRow_frostAt_40 (l : Launch) (dC : Nat → ClassId) (dI : Nat → Nat → Nat) (sz : Nat) (h0 : Nat) (k0 : ClassId) : Met l yX12_copyRow wk_f_X12_copyRow_frostAt_40 ({ frames := 0, cells := 0, slots := 0, locals := 0 }) (va_Pc [.ref h0, .int 4, .int 4, .int 0] (fun U => U.heap.size = sz ∧ va_P (dC, dI) vwCl [(h0, .inl (k0, 20, .inl (fun _ => 0)))] U.heap ∧ va_K (dC, dI) vwCl [(k0, .int)] U ∧ va_D (fun _ => True) [(h0, .inl (k0, 20, .inl (fun _ => 0)))])) (va_Qv (fun _ : Unit => True) (fun (_ : Unit) (t : State) => va_P (dC, dI) vwCl [(h0, .inl (k0, 20, .inl (fun _ => 0)))] t.heap ∧ va_K (dC, dI) vwCl [(k0, .int)] t ∧ va_D (va_A [(h0, .inl (k0, 20, .inl (fun _ => 0)))] sz) [(h0, .inl (k0, 20, .inl (fun _ => 0)))]) (va_A [(h0, .inl (k0, 20, .inl (fun _ => 0)))] sz)) 0 0 (va_A [(h0, .inl (k0, 20, .inl (fun _ => 0)))] sz) := by
  refine Met.ofW (cc := cX12_copyRow) (maxL := 5) (ret := none) (by decide) rfl ?_
  intro p e s m args below meth c s₁ B hml hv
  obtain ⟨rfl, hsz, hP, hK, hD0⟩ := hv
  have hx := B.exec
  have hb := B.bytes
  have hr := B.returns
  have hts := atoms_spec (ws := wk_f_X12_copyRow_frostAt_40) B.pre
  have hown : s.vm.findClass RX12 = some m.cls := findClass_of_methodNamed B.named
  have hlocks := B.notSynchronized
  subst hsz
  have hD := hD0.self (sz := s.heap.size)
  generalize hAe : va_A [(h0, .inl (k0, 20, .inl (fun _ => 0)))] s.heap.size = A at hD ⊢
  have hA : ∀ q : Nat, s.heap.size ≤ q → A q := fun q h => by rw [← hAe]; exact Or.inr h
  have hS : va_S A s.heap s.heap [] := va_S.rf
  have hP : va_P (dC, dI) vwCl [(h0, .inl (k0, 20, .inl (fun _ => 0)))] s.heap := hP
  have hl := lv_entry ([.ref h0, .int 4, .int 4, .int 0]) (n := 5) (Nat.le_of_ble_eq_true rfl)
  rw [lg_entry_eq]
  generalize (lg_sl ([.ref h0, .int 4, .int 4, .int 0]) ++ List.replicate (5 - (lg_sl ([.ref h0, .int 4, .int 4, .int 0])).length) Slot.unset).toArray = ls at hl ⊢
  have hl : lv_has ls 5 [(0, .ref h0), (1, .int 4), (2, .int 4), (3, .int 0)] := hl
  refine lv_iconst (v := 0) hx hb dX12_copyRow_0 (by decide) ?_
  refine lv_istore (lv' := [(4, .int 0), (0, .ref h0), (1, .int 4), (2, .int 4), (3, .int 0)]) hx hb dX12_copyRow_1 hl (by decide) rfl (fun ls hl => ?_)
  refine cr_loop hx hb hK h0 20 4 4 0 (by decide) (by decide) (by decide) (fun H locs ls hP hD hS => ?_) 4 0 (by decide) s.heap _ ls hP hD hS (lv_sub hl [0, 1, 2, 3, 4] rfl)
  have hP9 := hP.sub (ws' := [(h0, .inl (k0, 20, .inl (fun _ => 0)))]) [0] rfl
  have hD9 := hD.sub (ws' := [(h0, .inl (k0, 20, .inl (fun _ => 0)))]) [0] (by decide) rfl
  have hK9 := hK.sub (tys' := [(k0, .int)]) [0] rfl
  exact W.vret hx hb hr (fun t ht hW => ⟨⟨(), rfl, trivial, by rw [ht]; exact hP9, va_K.moved hW.alike hK9, hD9⟩, hS.F ht⟩) hS.2.2 dX12_copyRow_31
def wk_f_X12_copyRow_act_40 : List Cond := .code yX12_copyRow cX12_copyRow 5 none :: ([] ++ ([]))
theorem wkg_f_X12_copyRow_act_40 : wk_f_X12_copyRow_act_40.all goodWord = true := by decide +kernel
set_option maxHeartbeats 4000000 in
set_option maxRecDepth 100000 in
theorem f_X12_copyRow_act_40 (l : Launch) (dC : Nat → ClassId) (dI : Nat → Nat → Nat) (sz : Nat) (h0 : Nat) (k0 : ClassId) : Met l yX12_copyRow wk_f_X12_copyRow_act_40 ({ frames := 0, cells := 0, slots := 0, locals := 0 }) (va_Pc [.ref h0, .int 90, .int 4, .int 0] (fun U => U.heap.size = sz ∧ va_P (dC, dI) vwCl [(h0, .inl (k0, 450, .inl (fun _ => 0)))] U.heap ∧ va_K (dC, dI) vwCl [(k0, .int)] U ∧ va_D (fun _ => True) [(h0, .inl (k0, 450, .inl (fun _ => 0)))])) (va_Qv (fun _ : Unit => True) (fun (_ : Unit) (t : State) => va_P (dC, dI) vwCl [(h0, .inl (k0, 450, .inl (fun _ => 0)))] t.heap ∧ va_K (dC, dI) vwCl [(k0, .int)] t ∧ va_D (va_A [(h0, .inl (k0, 450, .inl (fun _ => 0)))] sz) [(h0, .inl (k0, 450, .inl (fun _ => 0)))]) (va_A [(h0, .inl (k0, 450, .inl (fun _ => 0)))] sz)) 0 0 (va_A [(h0, .inl (k0, 450, .inl (fun _ => 0)))] sz) := by
  refine Met.ofW (cc := cX12_copyRow) (maxL := 5) (ret := none) (by decide) rfl ?_
  intro p e s m args below meth c s₁ B hml hv
  obtain ⟨rfl, hsz, hP, hK, hD0⟩ := hv
  have hx := B.exec
  have hb := B.bytes
  have hr := B.returns
  have hts := atoms_spec (ws := wk_f_X12_copyRow_act_40) B.pre
  have hown : s.vm.findClass RX12 = some m.cls := findClass_of_methodNamed B.named
  have hlocks := B.notSynchronized
  subst hsz
  have hD := hD0.self (sz := s.heap.size)
  generalize hAe : va_A [(h0, .inl (k0, 450, .inl (fun _ => 0)))] s.heap.size = A at hD ⊢
  have hA : ∀ q : Nat, s.heap.size ≤ q → A q := fun q h => by rw [← hAe]; exact Or.inr h
  have hS : va_S A s.heap s.heap [] := va_S.rf
  have hP : va_P (dC, dI) vwCl [(h0, .inl (k0, 450, .inl (fun _ => 0)))] s.heap := hP
  have hl := lv_entry ([.ref h0, .int 90, .int 4, .int 0]) (n := 5) (Nat.le_of_ble_eq_true rfl)
  rw [lg_entry_eq]
  generalize (lg_sl ([.ref h0, .int 90, .int 4, .int 0]) ++ List.replicate (5 - (lg_sl ([.ref h0, .int 90, .int 4, .int 0])).length) Slot.unset).toArray = ls at hl ⊢
  have hl : lv_has ls 5 [(0, .ref h0), (1, .int 90), (2, .int 4), (3, .int 0)] := hl
  refine lv_iconst (v := 0) hx hb dX12_copyRow_0 (by decide) ?_
  refine lv_istore (lv' := [(4, .int 0), (0, .ref h0), (1, .int 90), (2, .int 4), (3, .int 0)]) hx hb dX12_copyRow_1 hl (by decide) rfl (fun ls hl => ?_)
  refine cr_loop hx hb hK h0 450 90 4 0 (by decide) (by decide) (by decide) (fun H locs ls hP hD hS => ?_) 90 0 (by decide) s.heap _ ls hP hD hS (lv_sub hl [0, 1, 2, 3, 4] rfl)
  have hP9 := hP.sub (ws' := [(h0, .inl (k0, 450, .inl (fun _ => 0)))]) [0] rfl
  have hD9 := hD.sub (ws' := [(h0, .inl (k0, 450, .inl (fun _ => 0)))]) [0] (by decide) rfl
  have hK9 := hK.sub (tys' := [(k0, .int)]) [0] rfl
  exact W.vret hx hb hr (fun t ht hW => ⟨⟨(), rfl, trivial, by rw [ht]; exact hP9, va_K.moved hW.alike hK9, hD9⟩, hS.F ht⟩) hS.2.2 dX12_copyRow_31
def wk_f_X12_copyRow_lines_01 : List Cond := .code yX12_copyRow cX12_copyRow 5 none :: ([] ++ ([]))
theorem wkg_f_X12_copyRow_lines_01 : wk_f_X12_copyRow_lines_01.all goodWord = true := by decide +kernel
set_option maxHeartbeats 4000000 in
set_option maxRecDepth 100000 in
theorem f_X12_copyRow_lines_01 (l : Launch) (dC : Nat → ClassId) (dI : Nat → Nat → Nat) (sz : Nat) (h0 : Nat) (k0 : ClassId) : Met l yX12_copyRow wk_f_X12_copyRow_lines_01 ({ frames := 0, cells := 0, slots := 0, locals := 0 }) (va_Pc [.ref h0, .int 1, .int 0, .int 1] (fun U => U.heap.size = sz ∧ va_P (dC, dI) vwCl [(h0, .inl (k0, 5, .inl (fun _ => 0)))] U.heap ∧ va_K (dC, dI) vwCl [(k0, .int)] U ∧ va_D (fun _ => True) [(h0, .inl (k0, 5, .inl (fun _ => 0)))])) (va_Qv (fun _ : Unit => True) (fun (_ : Unit) (t : State) => va_P (dC, dI) vwCl [(h0, .inl (k0, 5, .inl (fun _ => 0)))] t.heap ∧ va_K (dC, dI) vwCl [(k0, .int)] t ∧ va_D (va_A [(h0, .inl (k0, 5, .inl (fun _ => 0)))] sz) [(h0, .inl (k0, 5, .inl (fun _ => 0)))]) (va_A [(h0, .inl (k0, 5, .inl (fun _ => 0)))] sz)) 0 0 (va_A [(h0, .inl (k0, 5, .inl (fun _ => 0)))] sz) := by
  refine Met.ofW (cc := cX12_copyRow) (maxL := 5) (ret := none) (by decide) rfl ?_
  intro p e s m args below meth c s₁ B hml hv
  obtain ⟨rfl, hsz, hP, hK, hD0⟩ := hv
  have hx := B.exec
  have hb := B.bytes
  have hr := B.returns
  have hts := atoms_spec (ws := wk_f_X12_copyRow_lines_01) B.pre
  have hown : s.vm.findClass RX12 = some m.cls := findClass_of_methodNamed B.named
  have hlocks := B.notSynchronized
  subst hsz
  have hD := hD0.self (sz := s.heap.size)
  generalize hAe : va_A [(h0, .inl (k0, 5, .inl (fun _ => 0)))] s.heap.size = A at hD ⊢
  have hA : ∀ q : Nat, s.heap.size ≤ q → A q := fun q h => by rw [← hAe]; exact Or.inr h
  have hS : va_S A s.heap s.heap [] := va_S.rf
  have hP : va_P (dC, dI) vwCl [(h0, .inl (k0, 5, .inl (fun _ => 0)))] s.heap := hP
  have hl := lv_entry ([.ref h0, .int 1, .int 0, .int 1]) (n := 5) (Nat.le_of_ble_eq_true rfl)
  rw [lg_entry_eq]
  generalize (lg_sl ([.ref h0, .int 1, .int 0, .int 1]) ++ List.replicate (5 - (lg_sl ([.ref h0, .int 1, .int 0, .int 1])).length) Slot.unset).toArray = ls at hl ⊢
  have hl : lv_has ls 5 [(0, .ref h0), (1, .int 1), (2, .int 0), (3, .int 1)] := hl
  refine lv_iconst (v := 0) hx hb dX12_copyRow_0 (by decide) ?_
  refine lv_istore (lv' := [(4, .int 0), (0, .ref h0), (1, .int 1), (2, .int 0), (3, .int 1)]) hx hb dX12_copyRow_1 hl (by decide) rfl (fun ls hl => ?_)
  refine cr_loop hx hb hK h0 5 1 0 1 (by decide) (by decide) (by decide) (fun H locs ls hP hD hS => ?_) 1 0 (by decide) s.heap _ ls hP hD hS (lv_sub hl [0, 1, 2, 3, 4] rfl)
  have hP9 := hP.sub (ws' := [(h0, .inl (k0, 5, .inl (fun _ => 0)))]) [0] rfl
  have hD9 := hD.sub (ws' := [(h0, .inl (k0, 5, .inl (fun _ => 0)))]) [0] (by decide) rfl
  have hK9 := hK.sub (tys' := [(k0, .int)]) [0] rfl
  exact W.vret hx hb hr (fun t ht hW => ⟨⟨(), rfl, trivial, by rw [ht]; exact hP9, va_K.moved hW.alike hK9, hD9⟩, hS.F ht⟩) hS.2.2 dX12_copyRow_31
def wk_f_X12_copyRow_has_01 : List Cond := .code yX12_copyRow cX12_copyRow 5 none :: ([] ++ ([]))
theorem wkg_f_X12_copyRow_has_01 : wk_f_X12_copyRow_has_01.all goodWord = true := by decide +kernel
set_option maxHeartbeats 4000000 in
set_option maxRecDepth 100000 in
theorem f_X12_copyRow_has_01 (l : Launch) (dC : Nat → ClassId) (dI : Nat → Nat → Nat) (sz : Nat) (h0 : Nat) (k0 : ClassId) : Met l yX12_copyRow wk_f_X12_copyRow_has_01 ({ frames := 0, cells := 0, slots := 0, locals := 0 }) (va_Pc [.ref h0, .int 8, .int 0, .int 1] (fun U => U.heap.size = sz ∧ va_P (dC, dI) vwCl [(h0, .inl (k0, 40, .inl (fun _ => 0)))] U.heap ∧ va_K (dC, dI) vwCl [(k0, .int)] U ∧ va_D (fun _ => True) [(h0, .inl (k0, 40, .inl (fun _ => 0)))])) (va_Qv (fun _ : Unit => True) (fun (_ : Unit) (t : State) => va_P (dC, dI) vwCl [(h0, .inl (k0, 40, .inl (fun _ => 0)))] t.heap ∧ va_K (dC, dI) vwCl [(k0, .int)] t ∧ va_D (va_A [(h0, .inl (k0, 40, .inl (fun _ => 0)))] sz) [(h0, .inl (k0, 40, .inl (fun _ => 0)))]) (va_A [(h0, .inl (k0, 40, .inl (fun _ => 0)))] sz)) 0 0 (va_A [(h0, .inl (k0, 40, .inl (fun _ => 0)))] sz) := by
  refine Met.ofW (cc := cX12_copyRow) (maxL := 5) (ret := none) (by decide) rfl ?_
  intro p e s m args below meth c s₁ B hml hv
  obtain ⟨rfl, hsz, hP, hK, hD0⟩ := hv
  have hx := B.exec
  have hb := B.bytes
  have hr := B.returns
  have hts := atoms_spec (ws := wk_f_X12_copyRow_has_01) B.pre
  have hown : s.vm.findClass RX12 = some m.cls := findClass_of_methodNamed B.named
  have hlocks := B.notSynchronized
  subst hsz
  have hD := hD0.self (sz := s.heap.size)
  generalize hAe : va_A [(h0, .inl (k0, 40, .inl (fun _ => 0)))] s.heap.size = A at hD ⊢
  have hA : ∀ q : Nat, s.heap.size ≤ q → A q := fun q h => by rw [← hAe]; exact Or.inr h
  have hS : va_S A s.heap s.heap [] := va_S.rf
  have hP : va_P (dC, dI) vwCl [(h0, .inl (k0, 40, .inl (fun _ => 0)))] s.heap := hP
  have hl := lv_entry ([.ref h0, .int 8, .int 0, .int 1]) (n := 5) (Nat.le_of_ble_eq_true rfl)
  rw [lg_entry_eq]
  generalize (lg_sl ([.ref h0, .int 8, .int 0, .int 1]) ++ List.replicate (5 - (lg_sl ([.ref h0, .int 8, .int 0, .int 1])).length) Slot.unset).toArray = ls at hl ⊢
  have hl : lv_has ls 5 [(0, .ref h0), (1, .int 8), (2, .int 0), (3, .int 1)] := hl
  refine lv_iconst (v := 0) hx hb dX12_copyRow_0 (by decide) ?_
  refine lv_istore (lv' := [(4, .int 0), (0, .ref h0), (1, .int 8), (2, .int 0), (3, .int 1)]) hx hb dX12_copyRow_1 hl (by decide) rfl (fun ls hl => ?_)
  refine cr_loop hx hb hK h0 40 8 0 1 (by decide) (by decide) (by decide) (fun H locs ls hP hD hS => ?_) 8 0 (by decide) s.heap _ ls hP hD hS (lv_sub hl [0, 1, 2, 3, 4] rfl)
  have hP9 := hP.sub (ws' := [(h0, .inl (k0, 40, .inl (fun _ => 0)))]) [0] rfl
  have hD9 := hD.sub (ws' := [(h0, .inl (k0, 40, .inl (fun _ => 0)))]) [0] (by decide) rfl
  have hK9 := hK.sub (tys' := [(k0, .int)]) [0] rfl
  exact W.vret hx hb hr (fun t ht hW => ⟨⟨(), rfl, trivial, by rw [ht]; exact hP9, va_K.moved hW.alike hK9, hD9⟩, hS.F ht⟩) hS.2.2 dX12_copyRow_31
def wk_f_X12_copyRow_bridge_01 : List Cond := .code yX12_copyRow cX12_copyRow 5 none :: ([] ++ ([]))
theorem wkg_f_X12_copyRow_bridge_01 : wk_f_X12_copyRow_bridge_01.all goodWord = true := by decide +kernel
set_option maxHeartbeats 4000000 in
set_option maxRecDepth 100000 in
theorem f_X12_copyRow_bridge_01 (l : Launch) (dC : Nat → ClassId) (dI : Nat → Nat → Nat) (sz : Nat) (h0 : Nat) (k0 : ClassId) : Met l yX12_copyRow wk_f_X12_copyRow_bridge_01 ({ frames := 0, cells := 0, slots := 0, locals := 0 }) (va_Pc [.ref h0, .int 6, .int 0, .int 1] (fun U => U.heap.size = sz ∧ va_P (dC, dI) vwCl [(h0, .inl (k0, 30, .inl (fun _ => 0)))] U.heap ∧ va_K (dC, dI) vwCl [(k0, .int)] U ∧ va_D (fun _ => True) [(h0, .inl (k0, 30, .inl (fun _ => 0)))])) (va_Qv (fun _ : Unit => True) (fun (_ : Unit) (t : State) => va_P (dC, dI) vwCl [(h0, .inl (k0, 30, .inl (fun _ => 0)))] t.heap ∧ va_K (dC, dI) vwCl [(k0, .int)] t ∧ va_D (va_A [(h0, .inl (k0, 30, .inl (fun _ => 0)))] sz) [(h0, .inl (k0, 30, .inl (fun _ => 0)))]) (va_A [(h0, .inl (k0, 30, .inl (fun _ => 0)))] sz)) 0 0 (va_A [(h0, .inl (k0, 30, .inl (fun _ => 0)))] sz) := by
  refine Met.ofW (cc := cX12_copyRow) (maxL := 5) (ret := none) (by decide) rfl ?_
  intro p e s m args below meth c s₁ B hml hv
  obtain ⟨rfl, hsz, hP, hK, hD0⟩ := hv
  have hx := B.exec
  have hb := B.bytes
  have hr := B.returns
  have hts := atoms_spec (ws := wk_f_X12_copyRow_bridge_01) B.pre
  have hown : s.vm.findClass RX12 = some m.cls := findClass_of_methodNamed B.named
  have hlocks := B.notSynchronized
  subst hsz
  have hD := hD0.self (sz := s.heap.size)
  generalize hAe : va_A [(h0, .inl (k0, 30, .inl (fun _ => 0)))] s.heap.size = A at hD ⊢
  have hA : ∀ q : Nat, s.heap.size ≤ q → A q := fun q h => by rw [← hAe]; exact Or.inr h
  have hS : va_S A s.heap s.heap [] := va_S.rf
  have hP : va_P (dC, dI) vwCl [(h0, .inl (k0, 30, .inl (fun _ => 0)))] s.heap := hP
  have hl := lv_entry ([.ref h0, .int 6, .int 0, .int 1]) (n := 5) (Nat.le_of_ble_eq_true rfl)
  rw [lg_entry_eq]
  generalize (lg_sl ([.ref h0, .int 6, .int 0, .int 1]) ++ List.replicate (5 - (lg_sl ([.ref h0, .int 6, .int 0, .int 1])).length) Slot.unset).toArray = ls at hl ⊢
  have hl : lv_has ls 5 [(0, .ref h0), (1, .int 6), (2, .int 0), (3, .int 1)] := hl
  refine lv_iconst (v := 0) hx hb dX12_copyRow_0 (by decide) ?_
  refine lv_istore (lv' := [(4, .int 0), (0, .ref h0), (1, .int 6), (2, .int 0), (3, .int 1)]) hx hb dX12_copyRow_1 hl (by decide) rfl (fun ls hl => ?_)
  refine cr_loop hx hb hK h0 30 6 0 1 (by decide) (by decide) (by decide) (fun H locs ls hP hD hS => ?_) 6 0 (by decide) s.heap _ ls hP hD hS (lv_sub hl [0, 1, 2, 3, 4] rfl)
  have hP9 := hP.sub (ws' := [(h0, .inl (k0, 30, .inl (fun _ => 0)))]) [0] rfl
  have hD9 := hD.sub (ws' := [(h0, .inl (k0, 30, .inl (fun _ => 0)))]) [0] (by decide) rfl
  have hK9 := hK.sub (tys' := [(k0, .int)]) [0] rfl
  exact W.vret hx hb hr (fun t ht hW => ⟨⟨(), rfl, trivial, by rw [ht]; exact hP9, va_K.moved hW.alike hK9, hD9⟩, hS.F ht⟩) hS.2.2 dX12_copyRow_31
def wk_f_X12_copyRow_cart_01 : List Cond := .code yX12_copyRow cX12_copyRow 5 none :: ([] ++ ([]))
theorem wkg_f_X12_copyRow_cart_01 : wk_f_X12_copyRow_cart_01.all goodWord = true := by decide +kernel
set_option maxHeartbeats 4000000 in
set_option maxRecDepth 100000 in
theorem f_X12_copyRow_cart_01 (l : Launch) (dC : Nat → ClassId) (dI : Nat → Nat → Nat) (sz : Nat) (h0 : Nat) (k0 : ClassId) : Met l yX12_copyRow wk_f_X12_copyRow_cart_01 ({ frames := 0, cells := 0, slots := 0, locals := 0 }) (va_Pc [.ref h0, .int 14, .int 0, .int 1] (fun U => U.heap.size = sz ∧ va_P (dC, dI) vwCl [(h0, .inl (k0, 70, .inl (fun _ => 0)))] U.heap ∧ va_K (dC, dI) vwCl [(k0, .int)] U ∧ va_D (fun _ => True) [(h0, .inl (k0, 70, .inl (fun _ => 0)))])) (va_Qv (fun _ : Unit => True) (fun (_ : Unit) (t : State) => va_P (dC, dI) vwCl [(h0, .inl (k0, 70, .inl (fun _ => 0)))] t.heap ∧ va_K (dC, dI) vwCl [(k0, .int)] t ∧ va_D (va_A [(h0, .inl (k0, 70, .inl (fun _ => 0)))] sz) [(h0, .inl (k0, 70, .inl (fun _ => 0)))]) (va_A [(h0, .inl (k0, 70, .inl (fun _ => 0)))] sz)) 0 0 (va_A [(h0, .inl (k0, 70, .inl (fun _ => 0)))] sz) := by
  refine Met.ofW (cc := cX12_copyRow) (maxL := 5) (ret := none) (by decide) rfl ?_
  intro p e s m args below meth c s₁ B hml hv
  obtain ⟨rfl, hsz, hP, hK, hD0⟩ := hv
  have hx := B.exec
  have hb := B.bytes
  have hr := B.returns
  have hts := atoms_spec (ws := wk_f_X12_copyRow_cart_01) B.pre
  have hown : s.vm.findClass RX12 = some m.cls := findClass_of_methodNamed B.named
  have hlocks := B.notSynchronized
  subst hsz
  have hD := hD0.self (sz := s.heap.size)
  generalize hAe : va_A [(h0, .inl (k0, 70, .inl (fun _ => 0)))] s.heap.size = A at hD ⊢
  have hA : ∀ q : Nat, s.heap.size ≤ q → A q := fun q h => by rw [← hAe]; exact Or.inr h
  have hS : va_S A s.heap s.heap [] := va_S.rf
  have hP : va_P (dC, dI) vwCl [(h0, .inl (k0, 70, .inl (fun _ => 0)))] s.heap := hP
  have hl := lv_entry ([.ref h0, .int 14, .int 0, .int 1]) (n := 5) (Nat.le_of_ble_eq_true rfl)
  rw [lg_entry_eq]
  generalize (lg_sl ([.ref h0, .int 14, .int 0, .int 1]) ++ List.replicate (5 - (lg_sl ([.ref h0, .int 14, .int 0, .int 1])).length) Slot.unset).toArray = ls at hl ⊢
  have hl : lv_has ls 5 [(0, .ref h0), (1, .int 14), (2, .int 0), (3, .int 1)] := hl
  refine lv_iconst (v := 0) hx hb dX12_copyRow_0 (by decide) ?_
  refine lv_istore (lv' := [(4, .int 0), (0, .ref h0), (1, .int 14), (2, .int 0), (3, .int 1)]) hx hb dX12_copyRow_1 hl (by decide) rfl (fun ls hl => ?_)
  refine cr_loop hx hb hK h0 70 14 0 1 (by decide) (by decide) (by decide) (fun H locs ls hP hD hS => ?_) 14 0 (by decide) s.heap _ ls hP hD hS (lv_sub hl [0, 1, 2, 3, 4] rfl)
  have hP9 := hP.sub (ws' := [(h0, .inl (k0, 70, .inl (fun _ => 0)))]) [0] rfl
  have hD9 := hD.sub (ws' := [(h0, .inl (k0, 70, .inl (fun _ => 0)))]) [0] (by decide) rfl
  have hK9 := hK.sub (tys' := [(k0, .int)]) [0] rfl
  exact W.vret hx hb hr (fun t ht hW => ⟨⟨(), rfl, trivial, by rw [ht]; exact hP9, va_K.moved hW.alike hK9, hD9⟩, hS.F ht⟩) hS.2.2 dX12_copyRow_31
def wk_f_X12_copyRow_ward_01 : List Cond := .code yX12_copyRow cX12_copyRow 5 none :: ([] ++ ([]))
theorem wkg_f_X12_copyRow_ward_01 : wk_f_X12_copyRow_ward_01.all goodWord = true := by decide +kernel
set_option maxHeartbeats 4000000 in
set_option maxRecDepth 100000 in
theorem f_X12_copyRow_ward_01 (l : Launch) (dC : Nat → ClassId) (dI : Nat → Nat → Nat) (sz : Nat) (h0 : Nat) (k0 : ClassId) : Met l yX12_copyRow wk_f_X12_copyRow_ward_01 ({ frames := 0, cells := 0, slots := 0, locals := 0 }) (va_Pc [.ref h0, .int 15, .int 0, .int 1] (fun U => U.heap.size = sz ∧ va_P (dC, dI) vwCl [(h0, .inl (k0, 75, .inl (fun _ => 0)))] U.heap ∧ va_K (dC, dI) vwCl [(k0, .int)] U ∧ va_D (fun _ => True) [(h0, .inl (k0, 75, .inl (fun _ => 0)))])) (va_Qv (fun _ : Unit => True) (fun (_ : Unit) (t : State) => va_P (dC, dI) vwCl [(h0, .inl (k0, 75, .inl (fun _ => 0)))] t.heap ∧ va_K (dC, dI) vwCl [(k0, .int)] t ∧ va_D (va_A [(h0, .inl (k0, 75, .inl (fun _ => 0)))] sz) [(h0, .inl (k0, 75, .inl (fun _ => 0)))]) (va_A [(h0, .inl (k0, 75, .inl (fun _ => 0)))] sz)) 0 0 (va_A [(h0, .inl (k0, 75, .inl (fun _ => 0)))] sz) := by
  refine Met.ofW (cc := cX12_copyRow) (maxL := 5) (ret := none) (by decide) rfl ?_
  intro p e s m args below meth c s₁ B hml hv
  obtain ⟨rfl, hsz, hP, hK, hD0⟩ := hv
  have hx := B.exec
  have hb := B.bytes
  have hr := B.returns
  have hts := atoms_spec (ws := wk_f_X12_copyRow_ward_01) B.pre
  have hown : s.vm.findClass RX12 = some m.cls := findClass_of_methodNamed B.named
  have hlocks := B.notSynchronized
  subst hsz
  have hD := hD0.self (sz := s.heap.size)
  generalize hAe : va_A [(h0, .inl (k0, 75, .inl (fun _ => 0)))] s.heap.size = A at hD ⊢
  have hA : ∀ q : Nat, s.heap.size ≤ q → A q := fun q h => by rw [← hAe]; exact Or.inr h
  have hS : va_S A s.heap s.heap [] := va_S.rf
  have hP : va_P (dC, dI) vwCl [(h0, .inl (k0, 75, .inl (fun _ => 0)))] s.heap := hP
  have hl := lv_entry ([.ref h0, .int 15, .int 0, .int 1]) (n := 5) (Nat.le_of_ble_eq_true rfl)
  rw [lg_entry_eq]
  generalize (lg_sl ([.ref h0, .int 15, .int 0, .int 1]) ++ List.replicate (5 - (lg_sl ([.ref h0, .int 15, .int 0, .int 1])).length) Slot.unset).toArray = ls at hl ⊢
  have hl : lv_has ls 5 [(0, .ref h0), (1, .int 15), (2, .int 0), (3, .int 1)] := hl
  refine lv_iconst (v := 0) hx hb dX12_copyRow_0 (by decide) ?_
  refine lv_istore (lv' := [(4, .int 0), (0, .ref h0), (1, .int 15), (2, .int 0), (3, .int 1)]) hx hb dX12_copyRow_1 hl (by decide) rfl (fun ls hl => ?_)
  refine cr_loop hx hb hK h0 75 15 0 1 (by decide) (by decide) (by decide) (fun H locs ls hP hD hS => ?_) 15 0 (by decide) s.heap _ ls hP hD hS (lv_sub hl [0, 1, 2, 3, 4] rfl)
  have hP9 := hP.sub (ws' := [(h0, .inl (k0, 75, .inl (fun _ => 0)))]) [0] rfl
  have hD9 := hD.sub (ws' := [(h0, .inl (k0, 75, .inl (fun _ => 0)))]) [0] (by decide) rfl
  have hK9 := hK.sub (tys' := [(k0, .int)]) [0] rfl
  exact W.vret hx hb hr (fun t ht hW => ⟨⟨(), rfl, trivial, by rw [ht]; exact hP9, va_K.moved hW.alike hK9, hD9⟩, hS.F ht⟩) hS.2.2 dX12_copyRow_31
def wk_f_X12_copyRow_frostAt_01 : List Cond := .code yX12_copyRow cX12_copyRow 5 none :: ([] ++ ([]))
theorem wkg_f_X12_copyRow_frostAt_01 : wk_f_X12_copyRow_frostAt_01.all goodWord = true := by decide +kernel
set_option maxHeartbeats 4000000 in
set_option maxRecDepth 100000 in
theorem f_X12_copyRow_frostAt_01 (l : Launch) (dC : Nat → ClassId) (dI : Nat → Nat → Nat) (sz : Nat) (h0 : Nat) (k0 : ClassId) : Met l yX12_copyRow wk_f_X12_copyRow_frostAt_01 ({ frames := 0, cells := 0, slots := 0, locals := 0 }) (va_Pc [.ref h0, .int 4, .int 0, .int 1] (fun U => U.heap.size = sz ∧ va_P (dC, dI) vwCl [(h0, .inl (k0, 20, .inl (fun _ => 0)))] U.heap ∧ va_K (dC, dI) vwCl [(k0, .int)] U ∧ va_D (fun _ => True) [(h0, .inl (k0, 20, .inl (fun _ => 0)))])) (va_Qv (fun _ : Unit => True) (fun (_ : Unit) (t : State) => va_P (dC, dI) vwCl [(h0, .inl (k0, 20, .inl (fun _ => 0)))] t.heap ∧ va_K (dC, dI) vwCl [(k0, .int)] t ∧ va_D (va_A [(h0, .inl (k0, 20, .inl (fun _ => 0)))] sz) [(h0, .inl (k0, 20, .inl (fun _ => 0)))]) (va_A [(h0, .inl (k0, 20, .inl (fun _ => 0)))] sz)) 0 0 (va_A [(h0, .inl (k0, 20, .inl (fun _ => 0)))] sz) := by
  refine Met.ofW (cc := cX12_copyRow) (maxL := 5) (ret := none) (by decide) rfl ?_
  intro p e s m args below meth c s₁ B hml hv
  obtain ⟨rfl, hsz, hP, hK, hD0⟩ := hv
  have hx := B.exec
  have hb := B.bytes
  have hr := B.returns
  have hts := atoms_spec (ws := wk_f_X12_copyRow_frostAt_01) B.pre
  have hown : s.vm.findClass RX12 = some m.cls := findClass_of_methodNamed B.named
  have hlocks := B.notSynchronized
  subst hsz
  have hD := hD0.self (sz := s.heap.size)
  generalize hAe : va_A [(h0, .inl (k0, 20, .inl (fun _ => 0)))] s.heap.size = A at hD ⊢
  have hA : ∀ q : Nat, s.heap.size ≤ q → A q := fun q h => by rw [← hAe]; exact Or.inr h
  have hS : va_S A s.heap s.heap [] := va_S.rf
  have hP : va_P (dC, dI) vwCl [(h0, .inl (k0, 20, .inl (fun _ => 0)))] s.heap := hP
  have hl := lv_entry ([.ref h0, .int 4, .int 0, .int 1]) (n := 5) (Nat.le_of_ble_eq_true rfl)
  rw [lg_entry_eq]
  generalize (lg_sl ([.ref h0, .int 4, .int 0, .int 1]) ++ List.replicate (5 - (lg_sl ([.ref h0, .int 4, .int 0, .int 1])).length) Slot.unset).toArray = ls at hl ⊢
  have hl : lv_has ls 5 [(0, .ref h0), (1, .int 4), (2, .int 0), (3, .int 1)] := hl
  refine lv_iconst (v := 0) hx hb dX12_copyRow_0 (by decide) ?_
  refine lv_istore (lv' := [(4, .int 0), (0, .ref h0), (1, .int 4), (2, .int 0), (3, .int 1)]) hx hb dX12_copyRow_1 hl (by decide) rfl (fun ls hl => ?_)
  refine cr_loop hx hb hK h0 20 4 0 1 (by decide) (by decide) (by decide) (fun H locs ls hP hD hS => ?_) 4 0 (by decide) s.heap _ ls hP hD hS (lv_sub hl [0, 1, 2, 3, 4] rfl)
  have hP9 := hP.sub (ws' := [(h0, .inl (k0, 20, .inl (fun _ => 0)))]) [0] rfl
  have hD9 := hD.sub (ws' := [(h0, .inl (k0, 20, .inl (fun _ => 0)))]) [0] (by decide) rfl
  have hK9 := hK.sub (tys' := [(k0, .int)]) [0] rfl
  exact W.vret hx hb hr (fun t ht hW => ⟨⟨(), rfl, trivial, by rw [ht]; exact hP9, va_K.moved hW.alike hK9, hD9⟩, hS.F ht⟩) hS.2.2 dX12_copyRow_31
def wk_f_X12_copyRow_act_01 : List Cond := .code yX12_copyRow cX12_copyRow 5 none :: ([] ++ ([]))
theorem wkg_f_X12_copyRow_act_01 : wk_f_X12_copyRow_act_01.all goodWord = true := by decide +kernel
set_option maxHeartbeats 4000000 in
set_option maxRecDepth 100000 in
theorem f_X12_copyRow_act_01 (l : Launch) (dC : Nat → ClassId) (dI : Nat → Nat → Nat) (sz : Nat) (h0 : Nat) (k0 : ClassId) : Met l yX12_copyRow wk_f_X12_copyRow_act_01 ({ frames := 0, cells := 0, slots := 0, locals := 0 }) (va_Pc [.ref h0, .int 90, .int 0, .int 1] (fun U => U.heap.size = sz ∧ va_P (dC, dI) vwCl [(h0, .inl (k0, 450, .inl (fun _ => 0)))] U.heap ∧ va_K (dC, dI) vwCl [(k0, .int)] U ∧ va_D (fun _ => True) [(h0, .inl (k0, 450, .inl (fun _ => 0)))])) (va_Qv (fun _ : Unit => True) (fun (_ : Unit) (t : State) => va_P (dC, dI) vwCl [(h0, .inl (k0, 450, .inl (fun _ => 0)))] t.heap ∧ va_K (dC, dI) vwCl [(k0, .int)] t ∧ va_D (va_A [(h0, .inl (k0, 450, .inl (fun _ => 0)))] sz) [(h0, .inl (k0, 450, .inl (fun _ => 0)))]) (va_A [(h0, .inl (k0, 450, .inl (fun _ => 0)))] sz)) 0 0 (va_A [(h0, .inl (k0, 450, .inl (fun _ => 0)))] sz) := by
  refine Met.ofW (cc := cX12_copyRow) (maxL := 5) (ret := none) (by decide) rfl ?_
  intro p e s m args below meth c s₁ B hml hv
  obtain ⟨rfl, hsz, hP, hK, hD0⟩ := hv
  have hx := B.exec
  have hb := B.bytes
  have hr := B.returns
  have hts := atoms_spec (ws := wk_f_X12_copyRow_act_01) B.pre
  have hown : s.vm.findClass RX12 = some m.cls := findClass_of_methodNamed B.named
  have hlocks := B.notSynchronized
  subst hsz
  have hD := hD0.self (sz := s.heap.size)
  generalize hAe : va_A [(h0, .inl (k0, 450, .inl (fun _ => 0)))] s.heap.size = A at hD ⊢
  have hA : ∀ q : Nat, s.heap.size ≤ q → A q := fun q h => by rw [← hAe]; exact Or.inr h
  have hS : va_S A s.heap s.heap [] := va_S.rf
  have hP : va_P (dC, dI) vwCl [(h0, .inl (k0, 450, .inl (fun _ => 0)))] s.heap := hP
  have hl := lv_entry ([.ref h0, .int 90, .int 0, .int 1]) (n := 5) (Nat.le_of_ble_eq_true rfl)
  rw [lg_entry_eq]
  generalize (lg_sl ([.ref h0, .int 90, .int 0, .int 1]) ++ List.replicate (5 - (lg_sl ([.ref h0, .int 90, .int 0, .int 1])).length) Slot.unset).toArray = ls at hl ⊢
  have hl : lv_has ls 5 [(0, .ref h0), (1, .int 90), (2, .int 0), (3, .int 1)] := hl
  refine lv_iconst (v := 0) hx hb dX12_copyRow_0 (by decide) ?_
  refine lv_istore (lv' := [(4, .int 0), (0, .ref h0), (1, .int 90), (2, .int 0), (3, .int 1)]) hx hb dX12_copyRow_1 hl (by decide) rfl (fun ls hl => ?_)
  refine cr_loop hx hb hK h0 450 90 0 1 (by decide) (by decide) (by decide) (fun H locs ls hP hD hS => ?_) 90 0 (by decide) s.heap _ ls hP hD hS (lv_sub hl [0, 1, 2, 3, 4] rfl)
  have hP9 := hP.sub (ws' := [(h0, .inl (k0, 450, .inl (fun _ => 0)))]) [0] rfl
  have hD9 := hD.sub (ws' := [(h0, .inl (k0, 450, .inl (fun _ => 0)))]) [0] (by decide) rfl
  have hK9 := hK.sub (tys' := [(k0, .int)]) [0] rfl
  exact W.vret hx hb hr (fun t ht hW => ⟨⟨(), rfl, trivial, by rw [ht]; exact hP9, va_K.moved hW.alike hK9, hD9⟩, hS.F ht⟩) hS.2.2 dX12_copyRow_31
def wk_f_X12_copyRow_lines_02 : List Cond := .code yX12_copyRow cX12_copyRow 5 none :: ([] ++ ([]))
theorem wkg_f_X12_copyRow_lines_02 : wk_f_X12_copyRow_lines_02.all goodWord = true := by decide +kernel
set_option maxHeartbeats 4000000 in
set_option maxRecDepth 100000 in
theorem f_X12_copyRow_lines_02 (l : Launch) (dC : Nat → ClassId) (dI : Nat → Nat → Nat) (sz : Nat) (h0 : Nat) (k0 : ClassId) : Met l yX12_copyRow wk_f_X12_copyRow_lines_02 ({ frames := 0, cells := 0, slots := 0, locals := 0 }) (va_Pc [.ref h0, .int 1, .int 0, .int 2] (fun U => U.heap.size = sz ∧ va_P (dC, dI) vwCl [(h0, .inl (k0, 5, .inl (fun _ => 0)))] U.heap ∧ va_K (dC, dI) vwCl [(k0, .int)] U ∧ va_D (fun _ => True) [(h0, .inl (k0, 5, .inl (fun _ => 0)))])) (va_Qv (fun _ : Unit => True) (fun (_ : Unit) (t : State) => va_P (dC, dI) vwCl [(h0, .inl (k0, 5, .inl (fun _ => 0)))] t.heap ∧ va_K (dC, dI) vwCl [(k0, .int)] t ∧ va_D (va_A [(h0, .inl (k0, 5, .inl (fun _ => 0)))] sz) [(h0, .inl (k0, 5, .inl (fun _ => 0)))]) (va_A [(h0, .inl (k0, 5, .inl (fun _ => 0)))] sz)) 0 0 (va_A [(h0, .inl (k0, 5, .inl (fun _ => 0)))] sz) := by
  refine Met.ofW (cc := cX12_copyRow) (maxL := 5) (ret := none) (by decide) rfl ?_
  intro p e s m args below meth c s₁ B hml hv
  obtain ⟨rfl, hsz, hP, hK, hD0⟩ := hv
  have hx := B.exec
  have hb := B.bytes
  have hr := B.returns
  have hts := atoms_spec (ws := wk_f_X12_copyRow_lines_02) B.pre
  have hown : s.vm.findClass RX12 = some m.cls := findClass_of_methodNamed B.named
  have hlocks := B.notSynchronized
  subst hsz
  have hD := hD0.self (sz := s.heap.size)
  generalize hAe : va_A [(h0, .inl (k0, 5, .inl (fun _ => 0)))] s.heap.size = A at hD ⊢
  have hA : ∀ q : Nat, s.heap.size ≤ q → A q := fun q h => by rw [← hAe]; exact Or.inr h
  have hS : va_S A s.heap s.heap [] := va_S.rf
  have hP : va_P (dC, dI) vwCl [(h0, .inl (k0, 5, .inl (fun _ => 0)))] s.heap := hP
  have hl := lv_entry ([.ref h0, .int 1, .int 0, .int 2]) (n := 5) (Nat.le_of_ble_eq_true rfl)
  rw [lg_entry_eq]
  generalize (lg_sl ([.ref h0, .int 1, .int 0, .int 2]) ++ List.replicate (5 - (lg_sl ([.ref h0, .int 1, .int 0, .int 2])).length) Slot.unset).toArray = ls at hl ⊢
  have hl : lv_has ls 5 [(0, .ref h0), (1, .int 1), (2, .int 0), (3, .int 2)] := hl
  refine lv_iconst (v := 0) hx hb dX12_copyRow_0 (by decide) ?_
  refine lv_istore (lv' := [(4, .int 0), (0, .ref h0), (1, .int 1), (2, .int 0), (3, .int 2)]) hx hb dX12_copyRow_1 hl (by decide) rfl (fun ls hl => ?_)
  refine cr_loop hx hb hK h0 5 1 0 2 (by decide) (by decide) (by decide) (fun H locs ls hP hD hS => ?_) 1 0 (by decide) s.heap _ ls hP hD hS (lv_sub hl [0, 1, 2, 3, 4] rfl)
  have hP9 := hP.sub (ws' := [(h0, .inl (k0, 5, .inl (fun _ => 0)))]) [0] rfl
  have hD9 := hD.sub (ws' := [(h0, .inl (k0, 5, .inl (fun _ => 0)))]) [0] (by decide) rfl
  have hK9 := hK.sub (tys' := [(k0, .int)]) [0] rfl
  exact W.vret hx hb hr (fun t ht hW => ⟨⟨(), rfl, trivial, by rw [ht]; exact hP9, va_K.moved hW.alike hK9, hD9⟩, hS.F ht⟩) hS.2.2 dX12_copyRow_31
def wk_f_X12_copyRow_has_02 : List Cond := .code yX12_copyRow cX12_copyRow 5 none :: ([] ++ ([]))
theorem wkg_f_X12_copyRow_has_02 : wk_f_X12_copyRow_has_02.all goodWord = true := by decide +kernel
set_option maxHeartbeats 4000000 in
set_option maxRecDepth 100000 in
theorem f_X12_copyRow_has_02 (l : Launch) (dC : Nat → ClassId) (dI : Nat → Nat → Nat) (sz : Nat) (h0 : Nat) (k0 : ClassId) : Met l yX12_copyRow wk_f_X12_copyRow_has_02 ({ frames := 0, cells := 0, slots := 0, locals := 0 }) (va_Pc [.ref h0, .int 8, .int 0, .int 2] (fun U => U.heap.size = sz ∧ va_P (dC, dI) vwCl [(h0, .inl (k0, 40, .inl (fun _ => 0)))] U.heap ∧ va_K (dC, dI) vwCl [(k0, .int)] U ∧ va_D (fun _ => True) [(h0, .inl (k0, 40, .inl (fun _ => 0)))])) (va_Qv (fun _ : Unit => True) (fun (_ : Unit) (t : State) => va_P (dC, dI) vwCl [(h0, .inl (k0, 40, .inl (fun _ => 0)))] t.heap ∧ va_K (dC, dI) vwCl [(k0, .int)] t ∧ va_D (va_A [(h0, .inl (k0, 40, .inl (fun _ => 0)))] sz) [(h0, .inl (k0, 40, .inl (fun _ => 0)))]) (va_A [(h0, .inl (k0, 40, .inl (fun _ => 0)))] sz)) 0 0 (va_A [(h0, .inl (k0, 40, .inl (fun _ => 0)))] sz) := by
  refine Met.ofW (cc := cX12_copyRow) (maxL := 5) (ret := none) (by decide) rfl ?_
  intro p e s m args below meth c s₁ B hml hv
  obtain ⟨rfl, hsz, hP, hK, hD0⟩ := hv
  have hx := B.exec
  have hb := B.bytes
  have hr := B.returns
  have hts := atoms_spec (ws := wk_f_X12_copyRow_has_02) B.pre
  have hown : s.vm.findClass RX12 = some m.cls := findClass_of_methodNamed B.named
  have hlocks := B.notSynchronized
  subst hsz
  have hD := hD0.self (sz := s.heap.size)
  generalize hAe : va_A [(h0, .inl (k0, 40, .inl (fun _ => 0)))] s.heap.size = A at hD ⊢
  have hA : ∀ q : Nat, s.heap.size ≤ q → A q := fun q h => by rw [← hAe]; exact Or.inr h
  have hS : va_S A s.heap s.heap [] := va_S.rf
  have hP : va_P (dC, dI) vwCl [(h0, .inl (k0, 40, .inl (fun _ => 0)))] s.heap := hP
  have hl := lv_entry ([.ref h0, .int 8, .int 0, .int 2]) (n := 5) (Nat.le_of_ble_eq_true rfl)
  rw [lg_entry_eq]
  generalize (lg_sl ([.ref h0, .int 8, .int 0, .int 2]) ++ List.replicate (5 - (lg_sl ([.ref h0, .int 8, .int 0, .int 2])).length) Slot.unset).toArray = ls at hl ⊢
  have hl : lv_has ls 5 [(0, .ref h0), (1, .int 8), (2, .int 0), (3, .int 2)] := hl
  refine lv_iconst (v := 0) hx hb dX12_copyRow_0 (by decide) ?_
  refine lv_istore (lv' := [(4, .int 0), (0, .ref h0), (1, .int 8), (2, .int 0), (3, .int 2)]) hx hb dX12_copyRow_1 hl (by decide) rfl (fun ls hl => ?_)
  refine cr_loop hx hb hK h0 40 8 0 2 (by decide) (by decide) (by decide) (fun H locs ls hP hD hS => ?_) 8 0 (by decide) s.heap _ ls hP hD hS (lv_sub hl [0, 1, 2, 3, 4] rfl)
  have hP9 := hP.sub (ws' := [(h0, .inl (k0, 40, .inl (fun _ => 0)))]) [0] rfl
  have hD9 := hD.sub (ws' := [(h0, .inl (k0, 40, .inl (fun _ => 0)))]) [0] (by decide) rfl
  have hK9 := hK.sub (tys' := [(k0, .int)]) [0] rfl
  exact W.vret hx hb hr (fun t ht hW => ⟨⟨(), rfl, trivial, by rw [ht]; exact hP9, va_K.moved hW.alike hK9, hD9⟩, hS.F ht⟩) hS.2.2 dX12_copyRow_31
def wk_f_X12_copyRow_bridge_02 : List Cond := .code yX12_copyRow cX12_copyRow 5 none :: ([] ++ ([]))
theorem wkg_f_X12_copyRow_bridge_02 : wk_f_X12_copyRow_bridge_02.all goodWord = true := by decide +kernel
set_option maxHeartbeats 4000000 in
set_option maxRecDepth 100000 in
theorem f_X12_copyRow_bridge_02 (l : Launch) (dC : Nat → ClassId) (dI : Nat → Nat → Nat) (sz : Nat) (h0 : Nat) (k0 : ClassId) : Met l yX12_copyRow wk_f_X12_copyRow_bridge_02 ({ frames := 0, cells := 0, slots := 0, locals := 0 }) (va_Pc [.ref h0, .int 6, .int 0, .int 2] (fun U => U.heap.size = sz ∧ va_P (dC, dI) vwCl [(h0, .inl (k0, 30, .inl (fun _ => 0)))] U.heap ∧ va_K (dC, dI) vwCl [(k0, .int)] U ∧ va_D (fun _ => True) [(h0, .inl (k0, 30, .inl (fun _ => 0)))])) (va_Qv (fun _ : Unit => True) (fun (_ : Unit) (t : State) => va_P (dC, dI) vwCl [(h0, .inl (k0, 30, .inl (fun _ => 0)))] t.heap ∧ va_K (dC, dI) vwCl [(k0, .int)] t ∧ va_D (va_A [(h0, .inl (k0, 30, .inl (fun _ => 0)))] sz) [(h0, .inl (k0, 30, .inl (fun _ => 0)))]) (va_A [(h0, .inl (k0, 30, .inl (fun _ => 0)))] sz)) 0 0 (va_A [(h0, .inl (k0, 30, .inl (fun _ => 0)))] sz) := by
  refine Met.ofW (cc := cX12_copyRow) (maxL := 5) (ret := none) (by decide) rfl ?_
  intro p e s m args below meth c s₁ B hml hv
  obtain ⟨rfl, hsz, hP, hK, hD0⟩ := hv
  have hx := B.exec
  have hb := B.bytes
  have hr := B.returns
  have hts := atoms_spec (ws := wk_f_X12_copyRow_bridge_02) B.pre
  have hown : s.vm.findClass RX12 = some m.cls := findClass_of_methodNamed B.named
  have hlocks := B.notSynchronized
  subst hsz
  have hD := hD0.self (sz := s.heap.size)
  generalize hAe : va_A [(h0, .inl (k0, 30, .inl (fun _ => 0)))] s.heap.size = A at hD ⊢
  have hA : ∀ q : Nat, s.heap.size ≤ q → A q := fun q h => by rw [← hAe]; exact Or.inr h
  have hS : va_S A s.heap s.heap [] := va_S.rf
  have hP : va_P (dC, dI) vwCl [(h0, .inl (k0, 30, .inl (fun _ => 0)))] s.heap := hP
  have hl := lv_entry ([.ref h0, .int 6, .int 0, .int 2]) (n := 5) (Nat.le_of_ble_eq_true rfl)
  rw [lg_entry_eq]
  generalize (lg_sl ([.ref h0, .int 6, .int 0, .int 2]) ++ List.replicate (5 - (lg_sl ([.ref h0, .int 6, .int 0, .int 2])).length) Slot.unset).toArray = ls at hl ⊢
  have hl : lv_has ls 5 [(0, .ref h0), (1, .int 6), (2, .int 0), (3, .int 2)] := hl
  refine lv_iconst (v := 0) hx hb dX12_copyRow_0 (by decide) ?_
  refine lv_istore (lv' := [(4, .int 0), (0, .ref h0), (1, .int 6), (2, .int 0), (3, .int 2)]) hx hb dX12_copyRow_1 hl (by decide) rfl (fun ls hl => ?_)
  refine cr_loop hx hb hK h0 30 6 0 2 (by decide) (by decide) (by decide) (fun H locs ls hP hD hS => ?_) 6 0 (by decide) s.heap _ ls hP hD hS (lv_sub hl [0, 1, 2, 3, 4] rfl)
  have hP9 := hP.sub (ws' := [(h0, .inl (k0, 30, .inl (fun _ => 0)))]) [0] rfl
  have hD9 := hD.sub (ws' := [(h0, .inl (k0, 30, .inl (fun _ => 0)))]) [0] (by decide) rfl
  have hK9 := hK.sub (tys' := [(k0, .int)]) [0] rfl
  exact W.vret hx hb hr (fun t ht hW => ⟨⟨(), rfl, trivial, by rw [ht]; exact hP9, va_K.moved hW.alike hK9, hD9⟩, hS.F ht⟩) hS.2.2 dX12_copyRow_31
def wk_f_X12_copyRow_cart_02 : List Cond := .code yX12_copyRow cX12_copyRow 5 none :: ([] ++ ([]))
theorem wkg_f_X12_copyRow_cart_02 : wk_f_X12_copyRow_cart_02.all goodWord = true := by decide +kernel
set_option maxHeartbeats 4000000 in
set_option maxRecDepth 100000 in
theorem f_X12_copyRow_cart_02 (l : Launch) (dC : Nat → ClassId) (dI : Nat → Nat → Nat) (sz : Nat) (h0 : Nat) (k0 : ClassId) : Met l yX12_copyRow wk_f_X12_copyRow_cart_02 ({ frames := 0, cells := 0, slots := 0, locals := 0 }) (va_Pc [.ref h0, .int 14, .int 0, .int 2] (fun U => U.heap.size = sz ∧ va_P (dC, dI) vwCl [(h0, .inl (k0, 70, .inl (fun _ => 0)))] U.heap ∧ va_K (dC, dI) vwCl [(k0, .int)] U ∧ va_D (fun _ => True) [(h0, .inl (k0, 70, .inl (fun _ => 0)))])) (va_Qv (fun _ : Unit => True) (fun (_ : Unit) (t : State) => va_P (dC, dI) vwCl [(h0, .inl (k0, 70, .inl (fun _ => 0)))] t.heap ∧ va_K (dC, dI) vwCl [(k0, .int)] t ∧ va_D (va_A [(h0, .inl (k0, 70, .inl (fun _ => 0)))] sz) [(h0, .inl (k0, 70, .inl (fun _ => 0)))]) (va_A [(h0, .inl (k0, 70, .inl (fun _ => 0)))] sz)) 0 0 (va_A [(h0, .inl (k0, 70, .inl (fun _ => 0)))] sz) := by
  refine Met.ofW (cc := cX12_copyRow) (maxL := 5) (ret := none) (by decide) rfl ?_
  intro p e s m args below meth c s₁ B hml hv
  obtain ⟨rfl, hsz, hP, hK, hD0⟩ := hv
  have hx := B.exec
  have hb := B.bytes
  have hr := B.returns
  have hts := atoms_spec (ws := wk_f_X12_copyRow_cart_02) B.pre
  have hown : s.vm.findClass RX12 = some m.cls := findClass_of_methodNamed B.named
  have hlocks := B.notSynchronized
  subst hsz
  have hD := hD0.self (sz := s.heap.size)
  generalize hAe : va_A [(h0, .inl (k0, 70, .inl (fun _ => 0)))] s.heap.size = A at hD ⊢
  have hA : ∀ q : Nat, s.heap.size ≤ q → A q := fun q h => by rw [← hAe]; exact Or.inr h
  have hS : va_S A s.heap s.heap [] := va_S.rf
  have hP : va_P (dC, dI) vwCl [(h0, .inl (k0, 70, .inl (fun _ => 0)))] s.heap := hP
  have hl := lv_entry ([.ref h0, .int 14, .int 0, .int 2]) (n := 5) (Nat.le_of_ble_eq_true rfl)
  rw [lg_entry_eq]
  generalize (lg_sl ([.ref h0, .int 14, .int 0, .int 2]) ++ List.replicate (5 - (lg_sl ([.ref h0, .int 14, .int 0, .int 2])).length) Slot.unset).toArray = ls at hl ⊢
  have hl : lv_has ls 5 [(0, .ref h0), (1, .int 14), (2, .int 0), (3, .int 2)] := hl
  refine lv_iconst (v := 0) hx hb dX12_copyRow_0 (by decide) ?_
  refine lv_istore (lv' := [(4, .int 0), (0, .ref h0), (1, .int 14), (2, .int 0), (3, .int 2)]) hx hb dX12_copyRow_1 hl (by decide) rfl (fun ls hl => ?_)
  refine cr_loop hx hb hK h0 70 14 0 2 (by decide) (by decide) (by decide) (fun H locs ls hP hD hS => ?_) 14 0 (by decide) s.heap _ ls hP hD hS (lv_sub hl [0, 1, 2, 3, 4] rfl)
  have hP9 := hP.sub (ws' := [(h0, .inl (k0, 70, .inl (fun _ => 0)))]) [0] rfl
  have hD9 := hD.sub (ws' := [(h0, .inl (k0, 70, .inl (fun _ => 0)))]) [0] (by decide) rfl
  have hK9 := hK.sub (tys' := [(k0, .int)]) [0] rfl
  exact W.vret hx hb hr (fun t ht hW => ⟨⟨(), rfl, trivial, by rw [ht]; exact hP9, va_K.moved hW.alike hK9, hD9⟩, hS.F ht⟩) hS.2.2 dX12_copyRow_31
def wk_f_X12_copyRow_ward_02 : List Cond := .code yX12_copyRow cX12_copyRow 5 none :: ([] ++ ([]))
theorem wkg_f_X12_copyRow_ward_02 : wk_f_X12_copyRow_ward_02.all goodWord = true := by decide +kernel
set_option maxHeartbeats 4000000 in
set_option maxRecDepth 100000 in
theorem f_X12_copyRow_ward_02 (l : Launch) (dC : Nat → ClassId) (dI : Nat → Nat → Nat) (sz : Nat) (h0 : Nat) (k0 : ClassId) : Met l yX12_copyRow wk_f_X12_copyRow_ward_02 ({ frames := 0, cells := 0, slots := 0, locals := 0 }) (va_Pc [.ref h0, .int 15, .int 0, .int 2] (fun U => U.heap.size = sz ∧ va_P (dC, dI) vwCl [(h0, .inl (k0, 75, .inl (fun _ => 0)))] U.heap ∧ va_K (dC, dI) vwCl [(k0, .int)] U ∧ va_D (fun _ => True) [(h0, .inl (k0, 75, .inl (fun _ => 0)))])) (va_Qv (fun _ : Unit => True) (fun (_ : Unit) (t : State) => va_P (dC, dI) vwCl [(h0, .inl (k0, 75, .inl (fun _ => 0)))] t.heap ∧ va_K (dC, dI) vwCl [(k0, .int)] t ∧ va_D (va_A [(h0, .inl (k0, 75, .inl (fun _ => 0)))] sz) [(h0, .inl (k0, 75, .inl (fun _ => 0)))]) (va_A [(h0, .inl (k0, 75, .inl (fun _ => 0)))] sz)) 0 0 (va_A [(h0, .inl (k0, 75, .inl (fun _ => 0)))] sz) := by
  refine Met.ofW (cc := cX12_copyRow) (maxL := 5) (ret := none) (by decide) rfl ?_
  intro p e s m args below meth c s₁ B hml hv
  obtain ⟨rfl, hsz, hP, hK, hD0⟩ := hv
  have hx := B.exec
  have hb := B.bytes
  have hr := B.returns
  have hts := atoms_spec (ws := wk_f_X12_copyRow_ward_02) B.pre
  have hown : s.vm.findClass RX12 = some m.cls := findClass_of_methodNamed B.named
  have hlocks := B.notSynchronized
  subst hsz
  have hD := hD0.self (sz := s.heap.size)
  generalize hAe : va_A [(h0, .inl (k0, 75, .inl (fun _ => 0)))] s.heap.size = A at hD ⊢
  have hA : ∀ q : Nat, s.heap.size ≤ q → A q := fun q h => by rw [← hAe]; exact Or.inr h
  have hS : va_S A s.heap s.heap [] := va_S.rf
  have hP : va_P (dC, dI) vwCl [(h0, .inl (k0, 75, .inl (fun _ => 0)))] s.heap := hP
  have hl := lv_entry ([.ref h0, .int 15, .int 0, .int 2]) (n := 5) (Nat.le_of_ble_eq_true rfl)
  rw [lg_entry_eq]
  generalize (lg_sl ([.ref h0, .int 15, .int 0, .int 2]) ++ List.replicate (5 - (lg_sl ([.ref h0, .int 15, .int 0, .int 2])).length) Slot.unset).toArray = ls at hl ⊢
  have hl : lv_has ls 5 [(0, .ref h0), (1, .int 15), (2, .int 0), (3, .int 2)] := hl
  refine lv_iconst (v := 0) hx hb dX12_copyRow_0 (by decide) ?_
  refine lv_istore (lv' := [(4, .int 0), (0, .ref h0), (1, .int 15), (2, .int 0), (3, .int 2)]) hx hb dX12_copyRow_1 hl (by decide) rfl (fun ls hl => ?_)
  refine cr_loop hx hb hK h0 75 15 0 2 (by decide) (by decide) (by decide) (fun H locs ls hP hD hS => ?_) 15 0 (by decide) s.heap _ ls hP hD hS (lv_sub hl [0, 1, 2, 3, 4] rfl)
  have hP9 := hP.sub (ws' := [(h0, .inl (k0, 75, .inl (fun _ => 0)))]) [0] rfl
  have hD9 := hD.sub (ws' := [(h0, .inl (k0, 75, .inl (fun _ => 0)))]) [0] (by decide) rfl
  have hK9 := hK.sub (tys' := [(k0, .int)]) [0] rfl
  exact W.vret hx hb hr (fun t ht hW => ⟨⟨(), rfl, trivial, by rw [ht]; exact hP9, va_K.moved hW.alike hK9, hD9⟩, hS.F ht⟩) hS.2.2 dX12_copyRow_31
def wk_f_X12_copyRow_frostAt_02 : List Cond := .code yX12_copyRow cX12_copyRow 5 none :: ([] ++ ([]))
theorem wkg_f_X12_copyRow_frostAt_02 : wk_f_X12_copyRow_frostAt_02.all goodWord = true := by decide +kernel
set_option maxHeartbeats 4000000 in
set_option maxRecDepth 100000 in
theorem f_X12_copyRow_frostAt_02 (l : Launch) (dC : Nat → ClassId) (dI : Nat → Nat → Nat) (sz : Nat) (h0 : Nat) (k0 : ClassId) : Met l yX12_copyRow wk_f_X12_copyRow_frostAt_02 ({ frames := 0, cells := 0, slots := 0, locals := 0 }) (va_Pc [.ref h0, .int 4, .int 0, .int 2] (fun U => U.heap.size = sz ∧ va_P (dC, dI) vwCl [(h0, .inl (k0, 20, .inl (fun _ => 0)))] U.heap ∧ va_K (dC, dI) vwCl [(k0, .int)] U ∧ va_D (fun _ => True) [(h0, .inl (k0, 20, .inl (fun _ => 0)))])) (va_Qv (fun _ : Unit => True) (fun (_ : Unit) (t : State) => va_P (dC, dI) vwCl [(h0, .inl (k0, 20, .inl (fun _ => 0)))] t.heap ∧ va_K (dC, dI) vwCl [(k0, .int)] t ∧ va_D (va_A [(h0, .inl (k0, 20, .inl (fun _ => 0)))] sz) [(h0, .inl (k0, 20, .inl (fun _ => 0)))]) (va_A [(h0, .inl (k0, 20, .inl (fun _ => 0)))] sz)) 0 0 (va_A [(h0, .inl (k0, 20, .inl (fun _ => 0)))] sz) := by
  refine Met.ofW (cc := cX12_copyRow) (maxL := 5) (ret := none) (by decide) rfl ?_
  intro p e s m args below meth c s₁ B hml hv
  obtain ⟨rfl, hsz, hP, hK, hD0⟩ := hv
  have hx := B.exec
  have hb := B.bytes
  have hr := B.returns
  have hts := atoms_spec (ws := wk_f_X12_copyRow_frostAt_02) B.pre
  have hown : s.vm.findClass RX12 = some m.cls := findClass_of_methodNamed B.named
  have hlocks := B.notSynchronized
  subst hsz
  have hD := hD0.self (sz := s.heap.size)
  generalize hAe : va_A [(h0, .inl (k0, 20, .inl (fun _ => 0)))] s.heap.size = A at hD ⊢
  have hA : ∀ q : Nat, s.heap.size ≤ q → A q := fun q h => by rw [← hAe]; exact Or.inr h
  have hS : va_S A s.heap s.heap [] := va_S.rf
  have hP : va_P (dC, dI) vwCl [(h0, .inl (k0, 20, .inl (fun _ => 0)))] s.heap := hP
  have hl := lv_entry ([.ref h0, .int 4, .int 0, .int 2]) (n := 5) (Nat.le_of_ble_eq_true rfl)
  rw [lg_entry_eq]
  generalize (lg_sl ([.ref h0, .int 4, .int 0, .int 2]) ++ List.replicate (5 - (lg_sl ([.ref h0, .int 4, .int 0, .int 2])).length) Slot.unset).toArray = ls at hl ⊢
  have hl : lv_has ls 5 [(0, .ref h0), (1, .int 4), (2, .int 0), (3, .int 2)] := hl
  refine lv_iconst (v := 0) hx hb dX12_copyRow_0 (by decide) ?_
  refine lv_istore (lv' := [(4, .int 0), (0, .ref h0), (1, .int 4), (2, .int 0), (3, .int 2)]) hx hb dX12_copyRow_1 hl (by decide) rfl (fun ls hl => ?_)
  refine cr_loop hx hb hK h0 20 4 0 2 (by decide) (by decide) (by decide) (fun H locs ls hP hD hS => ?_) 4 0 (by decide) s.heap _ ls hP hD hS (lv_sub hl [0, 1, 2, 3, 4] rfl)
  have hP9 := hP.sub (ws' := [(h0, .inl (k0, 20, .inl (fun _ => 0)))]) [0] rfl
  have hD9 := hD.sub (ws' := [(h0, .inl (k0, 20, .inl (fun _ => 0)))]) [0] (by decide) rfl
  have hK9 := hK.sub (tys' := [(k0, .int)]) [0] rfl
  exact W.vret hx hb hr (fun t ht hW => ⟨⟨(), rfl, trivial, by rw [ht]; exact hP9, va_K.moved hW.alike hK9, hD9⟩, hS.F ht⟩) hS.2.2 dX12_copyRow_31
def wk_f_X12_copyRow_act_02 : List Cond := .code yX12_copyRow cX12_copyRow 5 none :: ([] ++ ([]))
theorem wkg_f_X12_copyRow_act_02 : wk_f_X12_copyRow_act_02.all goodWord = true := by decide +kernel
set_option maxHeartbeats 4000000 in
set_option maxRecDepth 100000 in
theorem f_X12_copyRow_act_02 (l : Launch) (dC : Nat → ClassId) (dI : Nat → Nat → Nat) (sz : Nat) (h0 : Nat) (k0 : ClassId) : Met l yX12_copyRow wk_f_X12_copyRow_act_02 ({ frames := 0, cells := 0, slots := 0, locals := 0 }) (va_Pc [.ref h0, .int 90, .int 0, .int 2] (fun U => U.heap.size = sz ∧ va_P (dC, dI) vwCl [(h0, .inl (k0, 450, .inl (fun _ => 0)))] U.heap ∧ va_K (dC, dI) vwCl [(k0, .int)] U ∧ va_D (fun _ => True) [(h0, .inl (k0, 450, .inl (fun _ => 0)))])) (va_Qv (fun _ : Unit => True) (fun (_ : Unit) (t : State) => va_P (dC, dI) vwCl [(h0, .inl (k0, 450, .inl (fun _ => 0)))] t.heap ∧ va_K (dC, dI) vwCl [(k0, .int)] t ∧ va_D (va_A [(h0, .inl (k0, 450, .inl (fun _ => 0)))] sz) [(h0, .inl (k0, 450, .inl (fun _ => 0)))]) (va_A [(h0, .inl (k0, 450, .inl (fun _ => 0)))] sz)) 0 0 (va_A [(h0, .inl (k0, 450, .inl (fun _ => 0)))] sz) := by
  refine Met.ofW (cc := cX12_copyRow) (maxL := 5) (ret := none) (by decide) rfl ?_
  intro p e s m args below meth c s₁ B hml hv
  obtain ⟨rfl, hsz, hP, hK, hD0⟩ := hv
  have hx := B.exec
  have hb := B.bytes
  have hr := B.returns
  have hts := atoms_spec (ws := wk_f_X12_copyRow_act_02) B.pre
  have hown : s.vm.findClass RX12 = some m.cls := findClass_of_methodNamed B.named
  have hlocks := B.notSynchronized
  subst hsz
  have hD := hD0.self (sz := s.heap.size)
  generalize hAe : va_A [(h0, .inl (k0, 450, .inl (fun _ => 0)))] s.heap.size = A at hD ⊢
  have hA : ∀ q : Nat, s.heap.size ≤ q → A q := fun q h => by rw [← hAe]; exact Or.inr h
  have hS : va_S A s.heap s.heap [] := va_S.rf
  have hP : va_P (dC, dI) vwCl [(h0, .inl (k0, 450, .inl (fun _ => 0)))] s.heap := hP
  have hl := lv_entry ([.ref h0, .int 90, .int 0, .int 2]) (n := 5) (Nat.le_of_ble_eq_true rfl)
  rw [lg_entry_eq]
  generalize (lg_sl ([.ref h0, .int 90, .int 0, .int 2]) ++ List.replicate (5 - (lg_sl ([.ref h0, .int 90, .int 0, .int 2])).length) Slot.unset).toArray = ls at hl ⊢
  have hl : lv_has ls 5 [(0, .ref h0), (1, .int 90), (2, .int 0), (3, .int 2)] := hl
  refine lv_iconst (v := 0) hx hb dX12_copyRow_0 (by decide) ?_
  refine lv_istore (lv' := [(4, .int 0), (0, .ref h0), (1, .int 90), (2, .int 0), (3, .int 2)]) hx hb dX12_copyRow_1 hl (by decide) rfl (fun ls hl => ?_)
  refine cr_loop hx hb hK h0 450 90 0 2 (by decide) (by decide) (by decide) (fun H locs ls hP hD hS => ?_) 90 0 (by decide) s.heap _ ls hP hD hS (lv_sub hl [0, 1, 2, 3, 4] rfl)
  have hP9 := hP.sub (ws' := [(h0, .inl (k0, 450, .inl (fun _ => 0)))]) [0] rfl
  have hD9 := hD.sub (ws' := [(h0, .inl (k0, 450, .inl (fun _ => 0)))]) [0] (by decide) rfl
  have hK9 := hK.sub (tys' := [(k0, .int)]) [0] rfl
  exact W.vret hx hb hr (fun t ht hW => ⟨⟨(), rfl, trivial, by rw [ht]; exact hP9, va_K.moved hW.alike hK9, hD9⟩, hS.F ht⟩) hS.2.2 dX12_copyRow_31
def wk_f_X12_copyRow_lines_03 : List Cond := .code yX12_copyRow cX12_copyRow 5 none :: ([] ++ ([]))
theorem wkg_f_X12_copyRow_lines_03 : wk_f_X12_copyRow_lines_03.all goodWord = true := by decide +kernel
set_option maxHeartbeats 4000000 in
set_option maxRecDepth 100000 in
theorem f_X12_copyRow_lines_03 (l : Launch) (dC : Nat → ClassId) (dI : Nat → Nat → Nat) (sz : Nat) (h0 : Nat) (k0 : ClassId) : Met l yX12_copyRow wk_f_X12_copyRow_lines_03 ({ frames := 0, cells := 0, slots := 0, locals := 0 }) (va_Pc [.ref h0, .int 1, .int 0, .int 3] (fun U => U.heap.size = sz ∧ va_P (dC, dI) vwCl [(h0, .inl (k0, 5, .inl (fun _ => 0)))] U.heap ∧ va_K (dC, dI) vwCl [(k0, .int)] U ∧ va_D (fun _ => True) [(h0, .inl (k0, 5, .inl (fun _ => 0)))])) (va_Qv (fun _ : Unit => True) (fun (_ : Unit) (t : State) => va_P (dC, dI) vwCl [(h0, .inl (k0, 5, .inl (fun _ => 0)))] t.heap ∧ va_K (dC, dI) vwCl [(k0, .int)] t ∧ va_D (va_A [(h0, .inl (k0, 5, .inl (fun _ => 0)))] sz) [(h0, .inl (k0, 5, .inl (fun _ => 0)))]) (va_A [(h0, .inl (k0, 5, .inl (fun _ => 0)))] sz)) 0 0 (va_A [(h0, .inl (k0, 5, .inl (fun _ => 0)))] sz) := by
  refine Met.ofW (cc := cX12_copyRow) (maxL := 5) (ret := none) (by decide) rfl ?_
  intro p e s m args below meth c s₁ B hml hv
  obtain ⟨rfl, hsz, hP, hK, hD0⟩ := hv
  have hx := B.exec
  have hb := B.bytes
  have hr := B.returns
  have hts := atoms_spec (ws := wk_f_X12_copyRow_lines_03) B.pre
  have hown : s.vm.findClass RX12 = some m.cls := findClass_of_methodNamed B.named
  have hlocks := B.notSynchronized
  subst hsz
  have hD := hD0.self (sz := s.heap.size)
  generalize hAe : va_A [(h0, .inl (k0, 5, .inl (fun _ => 0)))] s.heap.size = A at hD ⊢
  have hA : ∀ q : Nat, s.heap.size ≤ q → A q := fun q h => by rw [← hAe]; exact Or.inr h
  have hS : va_S A s.heap s.heap [] := va_S.rf
  have hP : va_P (dC, dI) vwCl [(h0, .inl (k0, 5, .inl (fun _ => 0)))] s.heap := hP
  have hl := lv_entry ([.ref h0, .int 1, .int 0, .int 3]) (n := 5) (Nat.le_of_ble_eq_true rfl)
  rw [lg_entry_eq]
  generalize (lg_sl ([.ref h0, .int 1, .int 0, .int 3]) ++ List.replicate (5 - (lg_sl ([.ref h0, .int 1, .int 0, .int 3])).length) Slot.unset).toArray = ls at hl ⊢
  have hl : lv_has ls 5 [(0, .ref h0), (1, .int 1), (2, .int 0), (3, .int 3)] := hl
  refine lv_iconst (v := 0) hx hb dX12_copyRow_0 (by decide) ?_
  refine lv_istore (lv' := [(4, .int 0), (0, .ref h0), (1, .int 1), (2, .int 0), (3, .int 3)]) hx hb dX12_copyRow_1 hl (by decide) rfl (fun ls hl => ?_)
  refine cr_loop hx hb hK h0 5 1 0 3 (by decide) (by decide) (by decide) (fun H locs ls hP hD hS => ?_) 1 0 (by decide) s.heap _ ls hP hD hS (lv_sub hl [0, 1, 2, 3, 4] rfl)
  have hP9 := hP.sub (ws' := [(h0, .inl (k0, 5, .inl (fun _ => 0)))]) [0] rfl
  have hD9 := hD.sub (ws' := [(h0, .inl (k0, 5, .inl (fun _ => 0)))]) [0] (by decide) rfl
  have hK9 := hK.sub (tys' := [(k0, .int)]) [0] rfl
  exact W.vret hx hb hr (fun t ht hW => ⟨⟨(), rfl, trivial, by rw [ht]; exact hP9, va_K.moved hW.alike hK9, hD9⟩, hS.F ht⟩) hS.2.2 dX12_copyRow_31
def wk_f_X12_copyRow_has_03 : List Cond := .code yX12_copyRow cX12_copyRow 5 none :: ([] ++ ([]))
theorem wkg_f_X12_copyRow_has_03 : wk_f_X12_copyRow_has_03.all goodWord = true := by decide +kernel
set_option maxHeartbeats 4000000 in
set_option maxRecDepth 100000 in
theorem f_X12_copyRow_has_03 (l : Launch) (dC : Nat → ClassId) (dI : Nat → Nat → Nat) (sz : Nat) (h0 : Nat) (k0 : ClassId) : Met l yX12_copyRow wk_f_X12_copyRow_has_03 ({ frames := 0, cells := 0, slots := 0, locals := 0 }) (va_Pc [.ref h0, .int 8, .int 0, .int 3] (fun U => U.heap.size = sz ∧ va_P (dC, dI) vwCl [(h0, .inl (k0, 40, .inl (fun _ => 0)))] U.heap ∧ va_K (dC, dI) vwCl [(k0, .int)] U ∧ va_D (fun _ => True) [(h0, .inl (k0, 40, .inl (fun _ => 0)))])) (va_Qv (fun _ : Unit => True) (fun (_ : Unit) (t : State) => va_P (dC, dI) vwCl [(h0, .inl (k0, 40, .inl (fun _ => 0)))] t.heap ∧ va_K (dC, dI) vwCl [(k0, .int)] t ∧ va_D (va_A [(h0, .inl (k0, 40, .inl (fun _ => 0)))] sz) [(h0, .inl (k0, 40, .inl (fun _ => 0)))]) (va_A [(h0, .inl (k0, 40, .inl (fun _ => 0)))] sz)) 0 0 (va_A [(h0, .inl (k0, 40, .inl (fun _ => 0)))] sz) := by
  refine Met.ofW (cc := cX12_copyRow) (maxL := 5) (ret := none) (by decide) rfl ?_
  intro p e s m args below meth c s₁ B hml hv
  obtain ⟨rfl, hsz, hP, hK, hD0⟩ := hv
  have hx := B.exec
  have hb := B.bytes
  have hr := B.returns
  have hts := atoms_spec (ws := wk_f_X12_copyRow_has_03) B.pre
  have hown : s.vm.findClass RX12 = some m.cls := findClass_of_methodNamed B.named
  have hlocks := B.notSynchronized
  subst hsz
  have hD := hD0.self (sz := s.heap.size)
  generalize hAe : va_A [(h0, .inl (k0, 40, .inl (fun _ => 0)))] s.heap.size = A at hD ⊢
  have hA : ∀ q : Nat, s.heap.size ≤ q → A q := fun q h => by rw [← hAe]; exact Or.inr h
  have hS : va_S A s.heap s.heap [] := va_S.rf
  have hP : va_P (dC, dI) vwCl [(h0, .inl (k0, 40, .inl (fun _ => 0)))] s.heap := hP
  have hl := lv_entry ([.ref h0, .int 8, .int 0, .int 3]) (n := 5) (Nat.le_of_ble_eq_true rfl)
  rw [lg_entry_eq]
  generalize (lg_sl ([.ref h0, .int 8, .int 0, .int 3]) ++ List.replicate (5 - (lg_sl ([.ref h0, .int 8, .int 0, .int 3])).length) Slot.unset).toArray = ls at hl ⊢
  have hl : lv_has ls 5 [(0, .ref h0), (1, .int 8), (2, .int 0), (3, .int 3)] := hl
  refine lv_iconst (v := 0) hx hb dX12_copyRow_0 (by decide) ?_
  refine lv_istore (lv' := [(4, .int 0), (0, .ref h0), (1, .int 8), (2, .int 0), (3, .int 3)]) hx hb dX12_copyRow_1 hl (by decide) rfl (fun ls hl => ?_)
  refine cr_loop hx hb hK h0 40 8 0 3 (by decide) (by decide) (by decide) (fun H locs ls hP hD hS => ?_) 8 0 (by decide) s.heap _ ls hP hD hS (lv_sub hl [0, 1, 2, 3, 4] rfl)
  have hP9 := hP.sub (ws' := [(h0, .inl (k0, 40, .inl (fun _ => 0)))]) [0] rfl
  have hD9 := hD.sub (ws' := [(h0, .inl (k0, 40, .inl (fun _ => 0)))]) [0] (by decide) rfl
  have hK9 := hK.sub (tys' := [(k0, .int)]) [0] rfl
  exact W.vret hx hb hr (fun t ht hW => ⟨⟨(), rfl, trivial, by rw [ht]; exact hP9, va_K.moved hW.alike hK9, hD9⟩, hS.F ht⟩) hS.2.2 dX12_copyRow_31
def wk_f_X12_copyRow_bridge_03 : List Cond := .code yX12_copyRow cX12_copyRow 5 none :: ([] ++ ([]))
theorem wkg_f_X12_copyRow_bridge_03 : wk_f_X12_copyRow_bridge_03.all goodWord = true := by decide +kernel
set_option maxHeartbeats 4000000 in
set_option maxRecDepth 100000 in
theorem f_X12_copyRow_bridge_03 (l : Launch) (dC : Nat → ClassId) (dI : Nat → Nat → Nat) (sz : Nat) (h0 : Nat) (k0 : ClassId) : Met l yX12_copyRow wk_f_X12_copyRow_bridge_03 ({ frames := 0, cells := 0, slots := 0, locals := 0 }) (va_Pc [.ref h0, .int 6, .int 0, .int 3] (fun U => U.heap.size = sz ∧ va_P (dC, dI) vwCl [(h0, .inl (k0, 30, .inl (fun _ => 0)))] U.heap ∧ va_K (dC, dI) vwCl [(k0, .int)] U ∧ va_D (fun _ => True) [(h0, .inl (k0, 30, .inl (fun _ => 0)))])) (va_Qv (fun _ : Unit => True) (fun (_ : Unit) (t : State) => va_P (dC, dI) vwCl [(h0, .inl (k0, 30, .inl (fun _ => 0)))] t.heap ∧ va_K (dC, dI) vwCl [(k0, .int)] t ∧ va_D (va_A [(h0, .inl (k0, 30, .inl (fun _ => 0)))] sz) [(h0, .inl (k0, 30, .inl (fun _ => 0)))]) (va_A [(h0, .inl (k0, 30, .inl (fun _ => 0)))] sz)) 0 0 (va_A [(h0, .inl (k0, 30, .inl (fun _ => 0)))] sz) := by
  refine Met.ofW (cc := cX12_copyRow) (maxL := 5) (ret := none) (by decide) rfl ?_
  intro p e s m args below meth c s₁ B hml hv
  obtain ⟨rfl, hsz, hP, hK, hD0⟩ := hv
  have hx := B.exec
  have hb := B.bytes
  have hr := B.returns
  have hts := atoms_spec (ws := wk_f_X12_copyRow_bridge_03) B.pre
  have hown : s.vm.findClass RX12 = some m.cls := findClass_of_methodNamed B.named
  have hlocks := B.notSynchronized
  subst hsz
  have hD := hD0.self (sz := s.heap.size)
  generalize hAe : va_A [(h0, .inl (k0, 30, .inl (fun _ => 0)))] s.heap.size = A at hD ⊢
  have hA : ∀ q : Nat, s.heap.size ≤ q → A q := fun q h => by rw [← hAe]; exact Or.inr h
  have hS : va_S A s.heap s.heap [] := va_S.rf
  have hP : va_P (dC, dI) vwCl [(h0, .inl (k0, 30, .inl (fun _ => 0)))] s.heap := hP
  have hl := lv_entry ([.ref h0, .int 6, .int 0, .int 3]) (n := 5) (Nat.le_of_ble_eq_true rfl)
  rw [lg_entry_eq]
  generalize (lg_sl ([.ref h0, .int 6, .int 0, .int 3]) ++ List.replicate (5 - (lg_sl ([.ref h0, .int 6, .int 0, .int 3])).length) Slot.unset).toArray = ls at hl ⊢
  have hl : lv_has ls 5 [(0, .ref h0), (1, .int 6), (2, .int 0), (3, .int 3)] := hl
  refine lv_iconst (v := 0) hx hb dX12_copyRow_0 (by decide) ?_
  refine lv_istore (lv' := [(4, .int 0), (0, .ref h0), (1, .int 6), (2, .int 0), (3, .int 3)]) hx hb dX12_copyRow_1 hl (by decide) rfl (fun ls hl => ?_)
  refine cr_loop hx hb hK h0 30 6 0 3 (by decide) (by decide) (by decide) (fun H locs ls hP hD hS => ?_) 6 0 (by decide) s.heap _ ls hP hD hS (lv_sub hl [0, 1, 2, 3, 4] rfl)
  have hP9 := hP.sub (ws' := [(h0, .inl (k0, 30, .inl (fun _ => 0)))]) [0] rfl
  have hD9 := hD.sub (ws' := [(h0, .inl (k0, 30, .inl (fun _ => 0)))]) [0] (by decide) rfl
  have hK9 := hK.sub (tys' := [(k0, .int)]) [0] rfl
  exact W.vret hx hb hr (fun t ht hW => ⟨⟨(), rfl, trivial, by rw [ht]; exact hP9, va_K.moved hW.alike hK9, hD9⟩, hS.F ht⟩) hS.2.2 dX12_copyRow_31
def wk_f_X12_copyRow_cart_03 : List Cond := .code yX12_copyRow cX12_copyRow 5 none :: ([] ++ ([]))
theorem wkg_f_X12_copyRow_cart_03 : wk_f_X12_copyRow_cart_03.all goodWord = true := by decide +kernel
set_option maxHeartbeats 4000000 in
set_option maxRecDepth 100000 in
theorem f_X12_copyRow_cart_03 (l : Launch) (dC : Nat → ClassId) (dI : Nat → Nat → Nat) (sz : Nat) (h0 : Nat) (k0 : ClassId) : Met l yX12_copyRow wk_f_X12_copyRow_cart_03 ({ frames := 0, cells := 0, slots := 0, locals := 0 }) (va_Pc [.ref h0, .int 14, .int 0, .int 3] (fun U => U.heap.size = sz ∧ va_P (dC, dI) vwCl [(h0, .inl (k0, 70, .inl (fun _ => 0)))] U.heap ∧ va_K (dC, dI) vwCl [(k0, .int)] U ∧ va_D (fun _ => True) [(h0, .inl (k0, 70, .inl (fun _ => 0)))])) (va_Qv (fun _ : Unit => True) (fun (_ : Unit) (t : State) => va_P (dC, dI) vwCl [(h0, .inl (k0, 70, .inl (fun _ => 0)))] t.heap ∧ va_K (dC, dI) vwCl [(k0, .int)] t ∧ va_D (va_A [(h0, .inl (k0, 70, .inl (fun _ => 0)))] sz) [(h0, .inl (k0, 70, .inl (fun _ => 0)))]) (va_A [(h0, .inl (k0, 70, .inl (fun _ => 0)))] sz)) 0 0 (va_A [(h0, .inl (k0, 70, .inl (fun _ => 0)))] sz) := by
  refine Met.ofW (cc := cX12_copyRow) (maxL := 5) (ret := none) (by decide) rfl ?_
  intro p e s m args below meth c s₁ B hml hv
  obtain ⟨rfl, hsz, hP, hK, hD0⟩ := hv
  have hx := B.exec
  have hb := B.bytes
  have hr := B.returns
  have hts := atoms_spec (ws := wk_f_X12_copyRow_cart_03) B.pre
  have hown : s.vm.findClass RX12 = some m.cls := findClass_of_methodNamed B.named
  have hlocks := B.notSynchronized
  subst hsz
  have hD := hD0.self (sz := s.heap.size)
  generalize hAe : va_A [(h0, .inl (k0, 70, .inl (fun _ => 0)))] s.heap.size = A at hD ⊢
  have hA : ∀ q : Nat, s.heap.size ≤ q → A q := fun q h => by rw [← hAe]; exact Or.inr h
  have hS : va_S A s.heap s.heap [] := va_S.rf
  have hP : va_P (dC, dI) vwCl [(h0, .inl (k0, 70, .inl (fun _ => 0)))] s.heap := hP
  have hl := lv_entry ([.ref h0, .int 14, .int 0, .int 3]) (n := 5) (Nat.le_of_ble_eq_true rfl)
  rw [lg_entry_eq]
  generalize (lg_sl ([.ref h0, .int 14, .int 0, .int 3]) ++ List.replicate (5 - (lg_sl ([.ref h0, .int 14, .int 0, .int 3])).length) Slot.unset).toArray = ls at hl ⊢
  have hl : lv_has ls 5 [(0, .ref h0), (1, .int 14), (2, .int 0), (3, .int 3)] := hl
  refine lv_iconst (v := 0) hx hb dX12_copyRow_0 (by decide) ?_
  refine lv_istore (lv' := [(4, .int 0), (0, .ref h0), (1, .int 14), (2, .int 0), (3, .int 3)]) hx hb dX12_copyRow_1 hl (by decide) rfl (fun ls hl => ?_)
  refine cr_loop hx hb hK h0 70 14 0 3 (by decide) (by decide) (by decide) (fun H locs ls hP hD hS => ?_) 14 0 (by decide) s.heap _ ls hP hD hS (lv_sub hl [0, 1, 2, 3, 4] rfl)
  have hP9 := hP.sub (ws' := [(h0, .inl (k0, 70, .inl (fun _ => 0)))]) [0] rfl
  have hD9 := hD.sub (ws' := [(h0, .inl (k0, 70, .inl (fun _ => 0)))]) [0] (by decide) rfl
  have hK9 := hK.sub (tys' := [(k0, .int)]) [0] rfl
  exact W.vret hx hb hr (fun t ht hW => ⟨⟨(), rfl, trivial, by rw [ht]; exact hP9, va_K.moved hW.alike hK9, hD9⟩, hS.F ht⟩) hS.2.2 dX12_copyRow_31
def wk_f_X12_copyRow_ward_03 : List Cond := .code yX12_copyRow cX12_copyRow 5 none :: ([] ++ ([]))
theorem wkg_f_X12_copyRow_ward_03 : wk_f_X12_copyRow_ward_03.all goodWord = true := by decide +kernel
set_option maxHeartbeats 4000000 in
set_option maxRecDepth 100000 in
theorem f_X12_copyRow_ward_03 (l : Launch) (dC : Nat → ClassId) (dI : Nat → Nat → Nat) (sz : Nat) (h0 : Nat) (k0 : ClassId) : Met l yX12_copyRow wk_f_X12_copyRow_ward_03 ({ frames := 0, cells := 0, slots := 0, locals := 0 }) (va_Pc [.ref h0, .int 15, .int 0, .int 3] (fun U => U.heap.size = sz ∧ va_P (dC, dI) vwCl [(h0, .inl (k0, 75, .inl (fun _ => 0)))] U.heap ∧ va_K (dC, dI) vwCl [(k0, .int)] U ∧ va_D (fun _ => True) [(h0, .inl (k0, 75, .inl (fun _ => 0)))])) (va_Qv (fun _ : Unit => True) (fun (_ : Unit) (t : State) => va_P (dC, dI) vwCl [(h0, .inl (k0, 75, .inl (fun _ => 0)))] t.heap ∧ va_K (dC, dI) vwCl [(k0, .int)] t ∧ va_D (va_A [(h0, .inl (k0, 75, .inl (fun _ => 0)))] sz) [(h0, .inl (k0, 75, .inl (fun _ => 0)))]) (va_A [(h0, .inl (k0, 75, .inl (fun _ => 0)))] sz)) 0 0 (va_A [(h0, .inl (k0, 75, .inl (fun _ => 0)))] sz) := by
  refine Met.ofW (cc := cX12_copyRow) (maxL := 5) (ret := none) (by decide) rfl ?_
  intro p e s m args below meth c s₁ B hml hv
  obtain ⟨rfl, hsz, hP, hK, hD0⟩ := hv
  have hx := B.exec
  have hb := B.bytes
  have hr := B.returns
  have hts := atoms_spec (ws := wk_f_X12_copyRow_ward_03) B.pre
  have hown : s.vm.findClass RX12 = some m.cls := findClass_of_methodNamed B.named
  have hlocks := B.notSynchronized
  subst hsz
  have hD := hD0.self (sz := s.heap.size)
  generalize hAe : va_A [(h0, .inl (k0, 75, .inl (fun _ => 0)))] s.heap.size = A at hD ⊢
  have hA : ∀ q : Nat, s.heap.size ≤ q → A q := fun q h => by rw [← hAe]; exact Or.inr h
  have hS : va_S A s.heap s.heap [] := va_S.rf
  have hP : va_P (dC, dI) vwCl [(h0, .inl (k0, 75, .inl (fun _ => 0)))] s.heap := hP
  have hl := lv_entry ([.ref h0, .int 15, .int 0, .int 3]) (n := 5) (Nat.le_of_ble_eq_true rfl)
  rw [lg_entry_eq]
  generalize (lg_sl ([.ref h0, .int 15, .int 0, .int 3]) ++ List.replicate (5 - (lg_sl ([.ref h0, .int 15, .int 0, .int 3])).length) Slot.unset).toArray = ls at hl ⊢
  have hl : lv_has ls 5 [(0, .ref h0), (1, .int 15), (2, .int 0), (3, .int 3)] := hl
  refine lv_iconst (v := 0) hx hb dX12_copyRow_0 (by decide) ?_
  refine lv_istore (lv' := [(4, .int 0), (0, .ref h0), (1, .int 15), (2, .int 0), (3, .int 3)]) hx hb dX12_copyRow_1 hl (by decide) rfl (fun ls hl => ?_)
  refine cr_loop hx hb hK h0 75 15 0 3 (by decide) (by decide) (by decide) (fun H locs ls hP hD hS => ?_) 15 0 (by decide) s.heap _ ls hP hD hS (lv_sub hl [0, 1, 2, 3, 4] rfl)
  have hP9 := hP.sub (ws' := [(h0, .inl (k0, 75, .inl (fun _ => 0)))]) [0] rfl
  have hD9 := hD.sub (ws' := [(h0, .inl (k0, 75, .inl (fun _ => 0)))]) [0] (by decide) rfl
  have hK9 := hK.sub (tys' := [(k0, .int)]) [0] rfl
  exact W.vret hx hb hr (fun t ht hW => ⟨⟨(), rfl, trivial, by rw [ht]; exact hP9, va_K.moved hW.alike hK9, hD9⟩, hS.F ht⟩) hS.2.2 dX12_copyRow_31
def wk_f_X12_copyRow_frostAt_03 : List Cond := .code yX12_copyRow cX12_copyRow 5 none :: ([] ++ ([]))
theorem wkg_f_X12_copyRow_frostAt_03 : wk_f_X12_copyRow_frostAt_03.all goodWord = true := by decide +kernel
set_option maxHeartbeats 4000000 in
set_option maxRecDepth 100000 in
theorem f_X12_copyRow_frostAt_03 (l : Launch) (dC : Nat → ClassId) (dI : Nat → Nat → Nat) (sz : Nat) (h0 : Nat) (k0 : ClassId) : Met l yX12_copyRow wk_f_X12_copyRow_frostAt_03 ({ frames := 0, cells := 0, slots := 0, locals := 0 }) (va_Pc [.ref h0, .int 4, .int 0, .int 3] (fun U => U.heap.size = sz ∧ va_P (dC, dI) vwCl [(h0, .inl (k0, 20, .inl (fun _ => 0)))] U.heap ∧ va_K (dC, dI) vwCl [(k0, .int)] U ∧ va_D (fun _ => True) [(h0, .inl (k0, 20, .inl (fun _ => 0)))])) (va_Qv (fun _ : Unit => True) (fun (_ : Unit) (t : State) => va_P (dC, dI) vwCl [(h0, .inl (k0, 20, .inl (fun _ => 0)))] t.heap ∧ va_K (dC, dI) vwCl [(k0, .int)] t ∧ va_D (va_A [(h0, .inl (k0, 20, .inl (fun _ => 0)))] sz) [(h0, .inl (k0, 20, .inl (fun _ => 0)))]) (va_A [(h0, .inl (k0, 20, .inl (fun _ => 0)))] sz)) 0 0 (va_A [(h0, .inl (k0, 20, .inl (fun _ => 0)))] sz) := by
  refine Met.ofW (cc := cX12_copyRow) (maxL := 5) (ret := none) (by decide) rfl ?_
  intro p e s m args below meth c s₁ B hml hv
  obtain ⟨rfl, hsz, hP, hK, hD0⟩ := hv
  have hx := B.exec
  have hb := B.bytes
  have hr := B.returns
  have hts := atoms_spec (ws := wk_f_X12_copyRow_frostAt_03) B.pre
  have hown : s.vm.findClass RX12 = some m.cls := findClass_of_methodNamed B.named
  have hlocks := B.notSynchronized
  subst hsz
  have hD := hD0.self (sz := s.heap.size)
  generalize hAe : va_A [(h0, .inl (k0, 20, .inl (fun _ => 0)))] s.heap.size = A at hD ⊢
  have hA : ∀ q : Nat, s.heap.size ≤ q → A q := fun q h => by rw [← hAe]; exact Or.inr h
  have hS : va_S A s.heap s.heap [] := va_S.rf
  have hP : va_P (dC, dI) vwCl [(h0, .inl (k0, 20, .inl (fun _ => 0)))] s.heap := hP
  have hl := lv_entry ([.ref h0, .int 4, .int 0, .int 3]) (n := 5) (Nat.le_of_ble_eq_true rfl)
  rw [lg_entry_eq]
  generalize (lg_sl ([.ref h0, .int 4, .int 0, .int 3]) ++ List.replicate (5 - (lg_sl ([.ref h0, .int 4, .int 0, .int 3])).length) Slot.unset).toArray = ls at hl ⊢
  have hl : lv_has ls 5 [(0, .ref h0), (1, .int 4), (2, .int 0), (3, .int 3)] := hl
  refine lv_iconst (v := 0) hx hb dX12_copyRow_0 (by decide) ?_
  refine lv_istore (lv' := [(4, .int 0), (0, .ref h0), (1, .int 4), (2, .int 0), (3, .int 3)]) hx hb dX12_copyRow_1 hl (by decide) rfl (fun ls hl => ?_)
  refine cr_loop hx hb hK h0 20 4 0 3 (by decide) (by decide) (by decide) (fun H locs ls hP hD hS => ?_) 4 0 (by decide) s.heap _ ls hP hD hS (lv_sub hl [0, 1, 2, 3, 4] rfl)
  have hP9 := hP.sub (ws' := [(h0, .inl (k0, 20, .inl (fun _ => 0)))]) [0] rfl
  have hD9 := hD.sub (ws' := [(h0, .inl (k0, 20, .inl (fun _ => 0)))]) [0] (by decide) rfl
  have hK9 := hK.sub (tys' := [(k0, .int)]) [0] rfl
  exact W.vret hx hb hr (fun t ht hW => ⟨⟨(), rfl, trivial, by rw [ht]; exact hP9, va_K.moved hW.alike hK9, hD9⟩, hS.F ht⟩) hS.2.2 dX12_copyRow_31
def wk_f_X12_copyRow_act_03 : List Cond := .code yX12_copyRow cX12_copyRow 5 none :: ([] ++ ([]))
theorem wkg_f_X12_copyRow_act_03 : wk_f_X12_copyRow_act_03.all goodWord = true := by decide +kernel
set_option maxHeartbeats 4000000 in
set_option maxRecDepth 100000 in
theorem f_X12_copyRow_act_03 (l : Launch) (dC : Nat → ClassId) (dI : Nat → Nat → Nat) (sz : Nat) (h0 : Nat) (k0 : ClassId) : Met l yX12_copyRow wk_f_X12_copyRow_act_03 ({ frames := 0, cells := 0, slots := 0, locals := 0 }) (va_Pc [.ref h0, .int 90, .int 0, .int 3] (fun U => U.heap.size = sz ∧ va_P (dC, dI) vwCl [(h0, .inl (k0, 450, .inl (fun _ => 0)))] U.heap ∧ va_K (dC, dI) vwCl [(k0, .int)] U ∧ va_D (fun _ => True) [(h0, .inl (k0, 450, .inl (fun _ => 0)))])) (va_Qv (fun _ : Unit => True) (fun (_ : Unit) (t : State) => va_P (dC, dI) vwCl [(h0, .inl (k0, 450, .inl (fun _ => 0)))] t.heap ∧ va_K (dC, dI) vwCl [(k0, .int)] t ∧ va_D (va_A [(h0, .inl (k0, 450, .inl (fun _ => 0)))] sz) [(h0, .inl (k0, 450, .inl (fun _ => 0)))]) (va_A [(h0, .inl (k0, 450, .inl (fun _ => 0)))] sz)) 0 0 (va_A [(h0, .inl (k0, 450, .inl (fun _ => 0)))] sz) := by
  refine Met.ofW (cc := cX12_copyRow) (maxL := 5) (ret := none) (by decide) rfl ?_
  intro p e s m args below meth c s₁ B hml hv
  obtain ⟨rfl, hsz, hP, hK, hD0⟩ := hv
  have hx := B.exec
  have hb := B.bytes
  have hr := B.returns
  have hts := atoms_spec (ws := wk_f_X12_copyRow_act_03) B.pre
  have hown : s.vm.findClass RX12 = some m.cls := findClass_of_methodNamed B.named
  have hlocks := B.notSynchronized
  subst hsz
  have hD := hD0.self (sz := s.heap.size)
  generalize hAe : va_A [(h0, .inl (k0, 450, .inl (fun _ => 0)))] s.heap.size = A at hD ⊢
  have hA : ∀ q : Nat, s.heap.size ≤ q → A q := fun q h => by rw [← hAe]; exact Or.inr h
  have hS : va_S A s.heap s.heap [] := va_S.rf
  have hP : va_P (dC, dI) vwCl [(h0, .inl (k0, 450, .inl (fun _ => 0)))] s.heap := hP
  have hl := lv_entry ([.ref h0, .int 90, .int 0, .int 3]) (n := 5) (Nat.le_of_ble_eq_true rfl)
  rw [lg_entry_eq]
  generalize (lg_sl ([.ref h0, .int 90, .int 0, .int 3]) ++ List.replicate (5 - (lg_sl ([.ref h0, .int 90, .int 0, .int 3])).length) Slot.unset).toArray = ls at hl ⊢
  have hl : lv_has ls 5 [(0, .ref h0), (1, .int 90), (2, .int 0), (3, .int 3)] := hl
  refine lv_iconst (v := 0) hx hb dX12_copyRow_0 (by decide) ?_
  refine lv_istore (lv' := [(4, .int 0), (0, .ref h0), (1, .int 90), (2, .int 0), (3, .int 3)]) hx hb dX12_copyRow_1 hl (by decide) rfl (fun ls hl => ?_)
  refine cr_loop hx hb hK h0 450 90 0 3 (by decide) (by decide) (by decide) (fun H locs ls hP hD hS => ?_) 90 0 (by decide) s.heap _ ls hP hD hS (lv_sub hl [0, 1, 2, 3, 4] rfl)
  have hP9 := hP.sub (ws' := [(h0, .inl (k0, 450, .inl (fun _ => 0)))]) [0] rfl
  have hD9 := hD.sub (ws' := [(h0, .inl (k0, 450, .inl (fun _ => 0)))]) [0] (by decide) rfl
  have hK9 := hK.sub (tys' := [(k0, .int)]) [0] rfl
  exact W.vret hx hb hr (fun t ht hW => ⟨⟨(), rfl, trivial, by rw [ht]; exact hP9, va_K.moved hW.alike hK9, hD9⟩, hS.F ht⟩) hS.2.2 dX12_copyRow_31
def wk_f_X12_copyValley_40 : List Cond := .code yX12_copyValley cX12_copyValley 3 none :: ([.fieldLink RX12 31 "SagMemoryModel" "lines" "[I", .methodLink RX12 279 yX12_copyRow, .static yX12_copyRow, .initialized RX12, .fieldLink RX12 34 "SagMemoryModel" "has" "[I", .fieldLink RX12 37 "SagMemoryModel" "bridge" "[I", .fieldLink RX12 40 "SagMemoryModel" "cart" "[I", .fieldLink RX12 43 "SagMemoryModel" "ward" "[I", .fieldLink RX12 46 "SagMemoryModel" "frostAt" "[I", .fieldLink RX12 49 "SagMemoryModel" "act" "[I"] ++ (wsX120 ++ (wk_f_X12_copyRow_lines_40 ++ (wk_f_X12_copyRow_has_40 ++ (wk_f_X12_copyRow_bridge_40 ++ (wk_f_X12_copyRow_cart_40 ++ (wk_f_X12_copyRow_ward_40 ++ (wk_f_X12_copyRow_frostAt_40 ++ (wk_f_X12_copyRow_act_40 ++ [])))))))))
theorem wkg_f_X12_copyValley_40 : wk_f_X12_copyValley_40.all goodWord = true := by decide +kernel
set_option maxHeartbeats 4000000 in
set_option maxRecDepth 100000 in
theorem f_X12_copyValley_40 (l : Launch) (dC : Nat → ClassId) (dI : Nat → Nat → Nat) (sz : Nat) (h0 : Nat) (m1 : Nat) (m2 : Nat) (m3 : Nat) (m4 : Nat) (m5 : Nat) (m16 : Nat) (m17 : Nat) (m18 : Nat) (m19 : Nat) (m20 : Nat) (m21 : Nat) (m22 : Nat) (m23 : Nat) (m27 : Nat) (m28 : Nat) (m29 : Nat) (m30 : Nat) (m31 : Nat) (m32 : Nat) (m33 : Nat) (m34 : Nat) (m35 : Nat) (m36 : Nat) (m37 : Nat) (m38 : Nat) (m39 : Nat) (m40 : Nat) (m41 : Nat) (m42 : Nat) (m46 : Nat) (m53 : Nat) (m57 : Nat) (m58 : Nat) (k16 : ClassId) (k17 : ClassId) (k18 : ClassId) (k19 : ClassId) (k20 : ClassId) (k21 : ClassId) (k22 : ClassId) (bp : Int32) : Met l yX12_copyValley wk_f_X12_copyValley_40 ({ frames := 1, cells := 0, slots := 0, locals := 24 }) (va_Pc [.ref h0, .int 4, .int 0] (fun U => U.heap.size = sz ∧ va_P (dC, dI) vwCl [(h0, .inr (12, [.int 0, .ref m1, .ref m2, .ref m3, .ref m4, .ref m5, .int 0, .int 0, .int 0, .int 0, .int 0, .long 0, .int 0, .int bp, .int 0, .int (-1), .ref m16, .ref m17, .ref m18, .ref m19, .ref m20, .ref m21, .ref m22, .ref m23, .int 0, .int 0, .int 0, .ref m27, .ref m28, .ref m29, .ref m30, .ref m31, .ref m32, .ref m33, .ref m34, .ref m35, .ref m36, .ref m37, .ref m38, .ref m39, .ref m40, .ref m41, .ref m42, .int 0, .int 0, .int 0, .ref m46, .int 0, .int 0, .int 0, .int 0, .int 0, .int 0, .ref m53, .int 0, .int 0, .int 0, .ref m57, .ref m58])), (m16, .inl (k16, 5, .inl (fun _ => 0))), (m17, .inl (k17, 40, .inl (fun _ => 0))), (m18, .inl (k18, 30, .inl (fun _ => 0))), (m19, .inl (k19, 70, .inl (fun _ => 0))), (m20, .inl (k20, 75, .inl (fun _ => 0))), (m21, .inl (k21, 20, .inl (fun _ => 0))), (m22, .inl (k22, 450, .inl (fun _ => 0)))] U.heap ∧ va_K (dC, dI) vwCl [(k16, .int), (k17, .int), (k18, .int), (k19, .int), (k20, .int), (k21, .int), (k22, .int)] U ∧ va_D (fun _ => True) [(h0, .inr (12, [.int 0, .ref m1, .ref m2, .ref m3, .ref m4, .ref m5, .int 0, .int 0, .int 0, .int 0, .int 0, .long 0, .int 0, .int bp, .int 0, .int (-1), .ref m16, .ref m17, .ref m18, .ref m19, .ref m20, .ref m21, .ref m22, .ref m23, .int 0, .int 0, .int 0, .ref m27, .ref m28, .ref m29, .ref m30, .ref m31, .ref m32, .ref m33, .ref m34, .ref m35, .ref m36, .ref m37, .ref m38, .ref m39, .ref m40, .ref m41, .ref m42, .int 0, .int 0, .int 0, .ref m46, .int 0, .int 0, .int 0, .int 0, .int 0, .int 0, .ref m53, .int 0, .int 0, .int 0, .ref m57, .ref m58])), (m16, .inl (k16, 5, .inl (fun _ => 0))), (m17, .inl (k17, 40, .inl (fun _ => 0))), (m18, .inl (k18, 30, .inl (fun _ => 0))), (m19, .inl (k19, 70, .inl (fun _ => 0))), (m20, .inl (k20, 75, .inl (fun _ => 0))), (m21, .inl (k21, 20, .inl (fun _ => 0))), (m22, .inl (k22, 450, .inl (fun _ => 0)))])) (va_Qv (fun _ : Unit => True) (fun (_ : Unit) (t : State) => va_P (dC, dI) vwCl [(h0, .inr (12, [.int 0, .ref m1, .ref m2, .ref m3, .ref m4, .ref m5, .int 0, .int 0, .int 0, .int 0, .int 0, .long 0, .int 0, .int bp, .int 0, .int (-1), .ref m16, .ref m17, .ref m18, .ref m19, .ref m20, .ref m21, .ref m22, .ref m23, .int 0, .int 0, .int 0, .ref m27, .ref m28, .ref m29, .ref m30, .ref m31, .ref m32, .ref m33, .ref m34, .ref m35, .ref m36, .ref m37, .ref m38, .ref m39, .ref m40, .ref m41, .ref m42, .int 0, .int 0, .int 0, .ref m46, .int 0, .int 0, .int 0, .int 0, .int 0, .int 0, .ref m53, .int 0, .int 0, .int 0, .ref m57, .ref m58])), (m16, .inl (k16, 5, .inl (fun _ => 0))), (m17, .inl (k17, 40, .inl (fun _ => 0))), (m18, .inl (k18, 30, .inl (fun _ => 0))), (m19, .inl (k19, 70, .inl (fun _ => 0))), (m20, .inl (k20, 75, .inl (fun _ => 0))), (m21, .inl (k21, 20, .inl (fun _ => 0))), (m22, .inl (k22, 450, .inl (fun _ => 0)))] t.heap ∧ va_K (dC, dI) vwCl [(k16, .int), (k17, .int), (k18, .int), (k19, .int), (k20, .int), (k21, .int), (k22, .int)] t ∧ va_D (va_A [(h0, .inr (12, [.int 0, .ref m1, .ref m2, .ref m3, .ref m4, .ref m5, .int 0, .int 0, .int 0, .int 0, .int 0, .long 0, .int 0, .int bp, .int 0, .int (-1), .ref m16, .ref m17, .ref m18, .ref m19, .ref m20, .ref m21, .ref m22, .ref m23, .int 0, .int 0, .int 0, .ref m27, .ref m28, .ref m29, .ref m30, .ref m31, .ref m32, .ref m33, .ref m34, .ref m35, .ref m36, .ref m37, .ref m38, .ref m39, .ref m40, .ref m41, .ref m42, .int 0, .int 0, .int 0, .ref m46, .int 0, .int 0, .int 0, .int 0, .int 0, .int 0, .ref m53, .int 0, .int 0, .int 0, .ref m57, .ref m58])), (m16, .inl (k16, 5, .inl (fun _ => 0))), (m17, .inl (k17, 40, .inl (fun _ => 0))), (m18, .inl (k18, 30, .inl (fun _ => 0))), (m19, .inl (k19, 70, .inl (fun _ => 0))), (m20, .inl (k20, 75, .inl (fun _ => 0))), (m21, .inl (k21, 20, .inl (fun _ => 0))), (m22, .inl (k22, 450, .inl (fun _ => 0)))] sz) [(h0, .inr (12, [.int 0, .ref m1, .ref m2, .ref m3, .ref m4, .ref m5, .int 0, .int 0, .int 0, .int 0, .int 0, .long 0, .int 0, .int bp, .int 0, .int (-1), .ref m16, .ref m17, .ref m18, .ref m19, .ref m20, .ref m21, .ref m22, .ref m23, .int 0, .int 0, .int 0, .ref m27, .ref m28, .ref m29, .ref m30, .ref m31, .ref m32, .ref m33, .ref m34, .ref m35, .ref m36, .ref m37, .ref m38, .ref m39, .ref m40, .ref m41, .ref m42, .int 0, .int 0, .int 0, .ref m46, .int 0, .int 0, .int 0, .int 0, .int 0, .int 0, .ref m53, .int 0, .int 0, .int 0, .ref m57, .ref m58])), (m16, .inl (k16, 5, .inl (fun _ => 0))), (m17, .inl (k17, 40, .inl (fun _ => 0))), (m18, .inl (k18, 30, .inl (fun _ => 0))), (m19, .inl (k19, 70, .inl (fun _ => 0))), (m20, .inl (k20, 75, .inl (fun _ => 0))), (m21, .inl (k21, 20, .inl (fun _ => 0))), (m22, .inl (k22, 450, .inl (fun _ => 0)))]) (va_A [(h0, .inr (12, [.int 0, .ref m1, .ref m2, .ref m3, .ref m4, .ref m5, .int 0, .int 0, .int 0, .int 0, .int 0, .long 0, .int 0, .int bp, .int 0, .int (-1), .ref m16, .ref m17, .ref m18, .ref m19, .ref m20, .ref m21, .ref m22, .ref m23, .int 0, .int 0, .int 0, .ref m27, .ref m28, .ref m29, .ref m30, .ref m31, .ref m32, .ref m33, .ref m34, .ref m35, .ref m36, .ref m37, .ref m38, .ref m39, .ref m40, .ref m41, .ref m42, .int 0, .int 0, .int 0, .ref m46, .int 0, .int 0, .int 0, .int 0, .int 0, .int 0, .ref m53, .int 0, .int 0, .int 0, .ref m57, .ref m58])), (m16, .inl (k16, 5, .inl (fun _ => 0))), (m17, .inl (k17, 40, .inl (fun _ => 0))), (m18, .inl (k18, 30, .inl (fun _ => 0))), (m19, .inl (k19, 70, .inl (fun _ => 0))), (m20, .inl (k20, 75, .inl (fun _ => 0))), (m21, .inl (k21, 20, .inl (fun _ => 0))), (m22, .inl (k22, 450, .inl (fun _ => 0)))] sz)) 0 0 (va_A [(h0, .inr (12, [.int 0, .ref m1, .ref m2, .ref m3, .ref m4, .ref m5, .int 0, .int 0, .int 0, .int 0, .int 0, .long 0, .int 0, .int bp, .int 0, .int (-1), .ref m16, .ref m17, .ref m18, .ref m19, .ref m20, .ref m21, .ref m22, .ref m23, .int 0, .int 0, .int 0, .ref m27, .ref m28, .ref m29, .ref m30, .ref m31, .ref m32, .ref m33, .ref m34, .ref m35, .ref m36, .ref m37, .ref m38, .ref m39, .ref m40, .ref m41, .ref m42, .int 0, .int 0, .int 0, .ref m46, .int 0, .int 0, .int 0, .int 0, .int 0, .int 0, .ref m53, .int 0, .int 0, .int 0, .ref m57, .ref m58])), (m16, .inl (k16, 5, .inl (fun _ => 0))), (m17, .inl (k17, 40, .inl (fun _ => 0))), (m18, .inl (k18, 30, .inl (fun _ => 0))), (m19, .inl (k19, 70, .inl (fun _ => 0))), (m20, .inl (k20, 75, .inl (fun _ => 0))), (m21, .inl (k21, 20, .inl (fun _ => 0))), (m22, .inl (k22, 450, .inl (fun _ => 0)))] sz) := by
  refine Met.ofW (cc := cX12_copyValley) (maxL := 3) (ret := none) (by decide) rfl ?_
  intro p e s m args below meth c s₁ B hml hv
  obtain ⟨rfl, hsz, hP, hK, hD0⟩ := hv
  have hx := B.exec
  have hb := B.bytes
  have hr := B.returns
  have hts := atoms_spec (ws := wk_f_X12_copyValley_40) B.pre
  have hown : s.vm.findClass RX12 = some m.cls := findClass_of_methodNamed B.named
  have hlocks := B.notSynchronized
  subst hsz
  have hD := hD0.self (sz := s.heap.size)
  generalize hAe : va_A [(h0, .inr (12, [.int 0, .ref m1, .ref m2, .ref m3, .ref m4, .ref m5, .int 0, .int 0, .int 0, .int 0, .int 0, .long 0, .int 0, .int bp, .int 0, .int (-1), .ref m16, .ref m17, .ref m18, .ref m19, .ref m20, .ref m21, .ref m22, .ref m23, .int 0, .int 0, .int 0, .ref m27, .ref m28, .ref m29, .ref m30, .ref m31, .ref m32, .ref m33, .ref m34, .ref m35, .ref m36, .ref m37, .ref m38, .ref m39, .ref m40, .ref m41, .ref m42, .int 0, .int 0, .int 0, .ref m46, .int 0, .int 0, .int 0, .int 0, .int 0, .int 0, .ref m53, .int 0, .int 0, .int 0, .ref m57, .ref m58])), (m16, .inl (k16, 5, .inl (fun _ => 0))), (m17, .inl (k17, 40, .inl (fun _ => 0))), (m18, .inl (k18, 30, .inl (fun _ => 0))), (m19, .inl (k19, 70, .inl (fun _ => 0))), (m20, .inl (k20, 75, .inl (fun _ => 0))), (m21, .inl (k21, 20, .inl (fun _ => 0))), (m22, .inl (k22, 450, .inl (fun _ => 0)))] s.heap.size = A at hD ⊢
  have hA : ∀ q : Nat, s.heap.size ≤ q → A q := fun q h => by rw [← hAe]; exact Or.inr h
  have hS : va_S A s.heap s.heap [] := va_S.rf
  have hP : va_P (dC, dI) vwCl [(h0, .inr (12, [.int 0, .ref m1, .ref m2, .ref m3, .ref m4, .ref m5, .int 0, .int 0, .int 0, .int 0, .int 0, .long 0, .int 0, .int bp, .int 0, .int (-1), .ref m16, .ref m17, .ref m18, .ref m19, .ref m20, .ref m21, .ref m22, .ref m23, .int 0, .int 0, .int 0, .ref m27, .ref m28, .ref m29, .ref m30, .ref m31, .ref m32, .ref m33, .ref m34, .ref m35, .ref m36, .ref m37, .ref m38, .ref m39, .ref m40, .ref m41, .ref m42, .int 0, .int 0, .int 0, .ref m46, .int 0, .int 0, .int 0, .int 0, .int 0, .int 0, .ref m53, .int 0, .int 0, .int 0, .ref m57, .ref m58])), (m16, .inl (k16, 5, .inl (fun _ => 0))), (m17, .inl (k17, 40, .inl (fun _ => 0))), (m18, .inl (k18, 30, .inl (fun _ => 0))), (m19, .inl (k19, 70, .inl (fun _ => 0))), (m20, .inl (k20, 75, .inl (fun _ => 0))), (m21, .inl (k21, 20, .inl (fun _ => 0))), (m22, .inl (k22, 450, .inl (fun _ => 0)))] s.heap := hP
  have hl := lv_entry ([.ref h0, .int 4, .int 0]) (n := 3) (Nat.le_of_ble_eq_true rfl)
  rw [lg_entry_eq]
  generalize (lg_sl ([.ref h0, .int 4, .int 0]) ++ List.replicate (3 - (lg_sl ([.ref h0, .int 4, .int 0])).length) Slot.unset).toArray = ls at hl ⊢
  have hl : lv_has ls 3 [(0, .ref h0), (1, .int 4), (2, .int 0)] := hl
  refine lv_aload_n hx hb dX12_copyValley_0 rfl (lv_at hl 0 rfl) ?_
  refine va_get (D := (dC, dI)) (ci := 12) (v := .ref m16) (C := RX12) (T := TX12) (N := 59) hx hb hts (fun w h => List.mem_cons_of_mem _ (List.mem_append_right _ (List.mem_append_left _ h))) hown hK hP 0 rfl rfl 16 (by decide) (hts (.fieldLink RX12 31 "SagMemoryModel" "lines" "[I") (wl_mem 0 rfl)) (fun _ h9 => h9) rfl dX12_copyValley_1 ?_
  refine lv_iconst (v := 1) hx hb dX12_copyValley_4 (by decide) ?_
  refine lv_iload_n hx hb dX12_copyValley_5 rfl (lv_at hl 1 rfl) ?_
  refine lv_iload_n hx hb dX12_copyValley_6 rfl (lv_at hl 2 rfl) ?_
  have hPc := hP.sub (ws' := [(m16, .inl (k16, 5, .inl (fun _ => 0)))]) [1] rfl
  have hKc := hK.sub (tys' := [(k16, .int)]) [0] rfl
  have hDc := hD.sub (ws' := [(m16, .inl (k16, 5, .inl (fun _ => 0)))]) [1] (by decide) rfl
  have hFc := va_free (wc := [(m16, .inl (k16, 5, .inl (fun _ => 0)))]) hD hS hA [1] rfl
  refine va_callv (va_runS (As := [.ref m16, .int 1, .int 4, .int 0]) (rest := []) ⟨hx, hb, hml, hown, hts⟩ (f_X12_copyRow_lines_40 l dC dI s.heap.size m16 k16) (va_cwS 4 hts (gk_S (wl_mem 1 rfl) (wl_mem 2 rfl) (wl_mem 3 rfl) (fun w h => List.mem_cons_of_mem _ (List.mem_append_right _ (List.mem_append_right _ (List.mem_append_left _ h)))) wkg_f_X12_copyRow_lines_40) rfl rfl rfl (by decide +kernel) ⟨Nat.le_of_ble_eq_true rfl, Nat.le_of_ble_eq_true rfl⟩) ⟨fun a U g mk q => by obtain ⟨q0, q1, qP, qK, qD⟩ := q; exact ⟨q0, q1, qP, va_K.moved (u := U) (U := U.calling g mk a) (Vm.Alike.refl U.vm) qK, qD⟩, fun U hU hW => ⟨rfl, by rw [hU], by rw [hU]; exact hPc, va_K.moved hW.alike hKc, hDc.weaken (fun _ _ _ _ => trivial)⟩⟩ rfl rfl hl.1 rfl (lv_room (Nat.le_of_ble_eq_true rfl)) dX12_copyValley_7 ⟨Nat.le_of_ble_eq_true rfl, Nat.le_of_ble_eq_true rfl⟩) hS (fun q _ h => hFc q h) hFc (fun u t H1 locs ht hvm hz1 hB hz1 hk1 hS => ?_)
  obtain ⟨hP1, hK1, hD1⟩ := hB
  rw [ht] at hP1
  have hK1 := va_K.moved hvm.symm hK1
  obtain ⟨hP, hD⟩ := va_join (wr := [(h0, .inr (12, [.int 0, .ref m1, .ref m2, .ref m3, .ref m4, .ref m5, .int 0, .int 0, .int 0, .int 0, .int 0, .long 0, .int 0, .int bp, .int 0, .int (-1), .ref m16, .ref m17, .ref m18, .ref m19, .ref m20, .ref m21, .ref m22, .ref m23, .int 0, .int 0, .int 0, .ref m27, .ref m28, .ref m29, .ref m30, .ref m31, .ref m32, .ref m33, .ref m34, .ref m35, .ref m36, .ref m37, .ref m38, .ref m39, .ref m40, .ref m41, .ref m42, .int 0, .int 0, .int 0, .ref m46, .int 0, .int 0, .int 0, .int 0, .int 0, .int 0, .ref m53, .int 0, .int 0, .int 0, .ref m57, .ref m58])), (m17, .inl (k17, 40, .inl (fun _ => 0))), (m18, .inl (k18, 30, .inl (fun _ => 0))), (m19, .inl (k19, 70, .inl (fun _ => 0))), (m20, .inl (k20, 75, .inl (fun _ => 0))), (m21, .inl (k21, 20, .inl (fun _ => 0))), (m22, .inl (k22, 450, .inl (fun _ => 0)))]) (w1 := [(m16, .inl (k16, 5, .inl (fun _ => 0)))]) hP hD [1] [0, 2, 3, 4, 5, 6, 7] rfl rfl (by decide) (by decide) hk1 hFc hP1 hD1
  have hK := (hK.sub (tys' := [(k17, .int), (k18, .int), (k19, .int), (k20, .int), (k21, .int), (k22, .int)]) [1, 2, 3, 4, 5, 6] rfl).app hK1
  generalize H1 = H at hP hS ⊢
  have hK : va_K (dC, dI) vwCl [(k17, .int), (k18, .int), (k19, .int), (k20, .int), (k21, .int), (k22, .int), (k16, .int)] s := hK
  have hP : va_P (dC, dI) vwCl [(h0, .inr (12, [.int 0, .ref m1, .ref m2, .ref m3, .ref m4, .ref m5, .int 0, .int 0, .int 0, .int 0, .int 0, .long 0, .int 0, .int bp, .int 0, .int (-1), .ref m16, .ref m17, .ref m18, .ref m19, .ref m20, .ref m21, .ref m22, .ref m23, .int 0, .int 0, .int 0, .ref m27, .ref m28, .ref m29, .ref m30, .ref m31, .ref m32, .ref m33, .ref m34, .ref m35, .ref m36, .ref m37, .ref m38, .ref m39, .ref m40, .ref m41, .ref m42, .int 0, .int 0, .int 0, .ref m46, .int 0, .int 0, .int 0, .int 0, .int 0, .int 0, .ref m53, .int 0, .int 0, .int 0, .ref m57, .ref m58])), (m17, .inl (k17, 40, .inl (fun _ => 0))), (m18, .inl (k18, 30, .inl (fun _ => 0))), (m19, .inl (k19, 70, .inl (fun _ => 0))), (m20, .inl (k20, 75, .inl (fun _ => 0))), (m21, .inl (k21, 20, .inl (fun _ => 0))), (m22, .inl (k22, 450, .inl (fun _ => 0))), (m16, .inl (k16, 5, .inl (fun _ => 0)))] H := hP
  have hD : va_D A [(h0, .inr (12, [.int 0, .ref m1, .ref m2, .ref m3, .ref m4, .ref m5, .int 0, .int 0, .int 0, .int 0, .int 0, .long 0, .int 0, .int bp, .int 0, .int (-1), .ref m16, .ref m17, .ref m18, .ref m19, .ref m20, .ref m21, .ref m22, .ref m23, .int 0, .int 0, .int 0, .ref m27, .ref m28, .ref m29, .ref m30, .ref m31, .ref m32, .ref m33, .ref m34, .ref m35, .ref m36, .ref m37, .ref m38, .ref m39, .ref m40, .ref m41, .ref m42, .int 0, .int 0, .int 0, .ref m46, .int 0, .int 0, .int 0, .int 0, .int 0, .int 0, .ref m53, .int 0, .int 0, .int 0, .ref m57, .ref m58])), (m17, .inl (k17, 40, .inl (fun _ => 0))), (m18, .inl (k18, 30, .inl (fun _ => 0))), (m19, .inl (k19, 70, .inl (fun _ => 0))), (m20, .inl (k20, 75, .inl (fun _ => 0))), (m21, .inl (k21, 20, .inl (fun _ => 0))), (m22, .inl (k22, 450, .inl (fun _ => 0))), (m16, .inl (k16, 5, .inl (fun _ => 0)))] := hD
  refine W.widen (k := 0) (n := 0) (Nat.le_of_ble_eq_true rfl) (Nat.le_of_ble_eq_true rfl) ?_
  refine lv_aload_n hx hb dX12_copyValley_10 rfl (lv_at hl 0 rfl) ?_
  refine va_get (D := (dC, dI)) (ci := 12) (v := .ref m17) (C := RX12) (T := TX12) (N := 59) hx hb hts (fun w h => List.mem_cons_of_mem _ (List.mem_append_right _ (List.mem_append_left _ h))) hown hK hP 0 rfl rfl 17 (by decide) (hts (.fieldLink RX12 34 "SagMemoryModel" "has" "[I") (wl_mem 4 rfl)) (fun _ h9 => h9) rfl dX12_copyValley_11 ?_
  refine lv_bipush (v := 8) hx hb dX12_copyValley_14 (by decide) ?_
  refine lv_iload_n hx hb dX12_copyValley_16 rfl (lv_at hl 1 rfl) ?_
  refine lv_iload_n hx hb dX12_copyValley_17 rfl (lv_at hl 2 rfl) ?_
  have hPc := hP.sub (ws' := [(m17, .inl (k17, 40, .inl (fun _ => 0)))]) [1] rfl
  have hKc := hK.sub (tys' := [(k17, .int)]) [0] rfl
  have hDc := hD.sub (ws' := [(m17, .inl (k17, 40, .inl (fun _ => 0)))]) [1] (by decide) rfl
  have hFc := va_free (wc := [(m17, .inl (k17, 40, .inl (fun _ => 0)))]) hD hS hA [1] rfl
  refine va_callv (va_runS (As := [.ref m17, .int 8, .int 4, .int 0]) (rest := []) ⟨hx, hb, hml, hown, hts⟩ (f_X12_copyRow_has_40 l dC dI H.size m17 k17) (va_cwS 4 hts (gk_S (wl_mem 1 rfl) (wl_mem 2 rfl) (wl_mem 3 rfl) (fun w h => List.mem_cons_of_mem _ (List.mem_append_right _ (List.mem_append_right _ (List.mem_append_right _ (List.mem_append_left _ h))))) wkg_f_X12_copyRow_has_40) rfl rfl rfl (by decide +kernel) ⟨Nat.le_of_ble_eq_true rfl, Nat.le_of_ble_eq_true rfl⟩) ⟨fun a U g mk q => by obtain ⟨q0, q1, qP, qK, qD⟩ := q; exact ⟨q0, q1, qP, va_K.moved (u := U) (U := U.calling g mk a) (Vm.Alike.refl U.vm) qK, qD⟩, fun U hU hW => ⟨rfl, by rw [hU], by rw [hU]; exact hPc, va_K.moved hW.alike hKc, hDc.weaken (fun _ _ _ _ => trivial)⟩⟩ rfl rfl hl.1 rfl (lv_room (Nat.le_of_ble_eq_true rfl)) dX12_copyValley_18 ⟨Nat.le_of_ble_eq_true rfl, Nat.le_of_ble_eq_true rfl⟩) hS (fun q _ h => hFc q h) hFc (fun u t H1 locs ht hvm hz3 hB hz1 hk1 hS => ?_)
  obtain ⟨hP1, hK1, hD1⟩ := hB
  rw [ht] at hP1
  have hK1 := va_K.moved hvm.symm hK1
  obtain ⟨hP, hD⟩ := va_join (wr := [(h0, .inr (12, [.int 0, .ref m1, .ref m2, .ref m3, .ref m4, .ref m5, .int 0, .int 0, .int 0, .int 0, .int 0, .long 0, .int 0, .int bp, .int 0, .int (-1), .ref m16, .ref m17, .ref m18, .ref m19, .ref m20, .ref m21, .ref m22, .ref m23, .int 0, .int 0, .int 0, .ref m27, .ref m28, .ref m29, .ref m30, .ref m31, .ref m32, .ref m33, .ref m34, .ref m35, .ref m36, .ref m37, .ref m38, .ref m39, .ref m40, .ref m41, .ref m42, .int 0, .int 0, .int 0, .ref m46, .int 0, .int 0, .int 0, .int 0, .int 0, .int 0, .ref m53, .int 0, .int 0, .int 0, .ref m57, .ref m58])), (m18, .inl (k18, 30, .inl (fun _ => 0))), (m19, .inl (k19, 70, .inl (fun _ => 0))), (m20, .inl (k20, 75, .inl (fun _ => 0))), (m21, .inl (k21, 20, .inl (fun _ => 0))), (m22, .inl (k22, 450, .inl (fun _ => 0))), (m16, .inl (k16, 5, .inl (fun _ => 0)))]) (w1 := [(m17, .inl (k17, 40, .inl (fun _ => 0)))]) hP hD [1] [0, 2, 3, 4, 5, 6, 7] rfl rfl (by decide) (by decide) hk1 hFc hP1 hD1
  have hK := (hK.sub (tys' := [(k18, .int), (k19, .int), (k20, .int), (k21, .int), (k22, .int), (k16, .int)]) [1, 2, 3, 4, 5, 6] rfl).app hK1
  generalize H1 = H at hP hS ⊢
  have hK : va_K (dC, dI) vwCl [(k18, .int), (k19, .int), (k20, .int), (k21, .int), (k22, .int), (k16, .int), (k17, .int)] s := hK
  have hP : va_P (dC, dI) vwCl [(h0, .inr (12, [.int 0, .ref m1, .ref m2, .ref m3, .ref m4, .ref m5, .int 0, .int 0, .int 0, .int 0, .int 0, .long 0, .int 0, .int bp, .int 0, .int (-1), .ref m16, .ref m17, .ref m18, .ref m19, .ref m20, .ref m21, .ref m22, .ref m23, .int 0, .int 0, .int 0, .ref m27, .ref m28, .ref m29, .ref m30, .ref m31, .ref m32, .ref m33, .ref m34, .ref m35, .ref m36, .ref m37, .ref m38, .ref m39, .ref m40, .ref m41, .ref m42, .int 0, .int 0, .int 0, .ref m46, .int 0, .int 0, .int 0, .int 0, .int 0, .int 0, .ref m53, .int 0, .int 0, .int 0, .ref m57, .ref m58])), (m18, .inl (k18, 30, .inl (fun _ => 0))), (m19, .inl (k19, 70, .inl (fun _ => 0))), (m20, .inl (k20, 75, .inl (fun _ => 0))), (m21, .inl (k21, 20, .inl (fun _ => 0))), (m22, .inl (k22, 450, .inl (fun _ => 0))), (m16, .inl (k16, 5, .inl (fun _ => 0))), (m17, .inl (k17, 40, .inl (fun _ => 0)))] H := hP
  have hD : va_D A [(h0, .inr (12, [.int 0, .ref m1, .ref m2, .ref m3, .ref m4, .ref m5, .int 0, .int 0, .int 0, .int 0, .int 0, .long 0, .int 0, .int bp, .int 0, .int (-1), .ref m16, .ref m17, .ref m18, .ref m19, .ref m20, .ref m21, .ref m22, .ref m23, .int 0, .int 0, .int 0, .ref m27, .ref m28, .ref m29, .ref m30, .ref m31, .ref m32, .ref m33, .ref m34, .ref m35, .ref m36, .ref m37, .ref m38, .ref m39, .ref m40, .ref m41, .ref m42, .int 0, .int 0, .int 0, .ref m46, .int 0, .int 0, .int 0, .int 0, .int 0, .int 0, .ref m53, .int 0, .int 0, .int 0, .ref m57, .ref m58])), (m18, .inl (k18, 30, .inl (fun _ => 0))), (m19, .inl (k19, 70, .inl (fun _ => 0))), (m20, .inl (k20, 75, .inl (fun _ => 0))), (m21, .inl (k21, 20, .inl (fun _ => 0))), (m22, .inl (k22, 450, .inl (fun _ => 0))), (m16, .inl (k16, 5, .inl (fun _ => 0))), (m17, .inl (k17, 40, .inl (fun _ => 0)))] := hD
  refine W.widen (k := 0) (n := 0) (Nat.le_of_ble_eq_true rfl) (Nat.le_of_ble_eq_true rfl) ?_
  refine lv_aload_n hx hb dX12_copyValley_21 rfl (lv_at hl 0 rfl) ?_
  refine va_get (D := (dC, dI)) (ci := 12) (v := .ref m18) (C := RX12) (T := TX12) (N := 59) hx hb hts (fun w h => List.mem_cons_of_mem _ (List.mem_append_right _ (List.mem_append_left _ h))) hown hK hP 0 rfl rfl 18 (by decide) (hts (.fieldLink RX12 37 "SagMemoryModel" "bridge" "[I") (wl_mem 5 rfl)) (fun _ h9 => h9) rfl dX12_copyValley_22 ?_
  refine lv_bipush (v := 6) hx hb dX12_copyValley_25 (by decide) ?_
  refine lv_iload_n hx hb dX12_copyValley_27 rfl (lv_at hl 1 rfl) ?_
  refine lv_iload_n hx hb dX12_copyValley_28 rfl (lv_at hl 2 rfl) ?_
  have hPc := hP.sub (ws' := [(m18, .inl (k18, 30, .inl (fun _ => 0)))]) [1] rfl
  have hKc := hK.sub (tys' := [(k18, .int)]) [0] rfl
  have hDc := hD.sub (ws' := [(m18, .inl (k18, 30, .inl (fun _ => 0)))]) [1] (by decide) rfl
  have hFc := va_free (wc := [(m18, .inl (k18, 30, .inl (fun _ => 0)))]) hD hS hA [1] rfl
  refine va_callv (va_runS (As := [.ref m18, .int 6, .int 4, .int 0]) (rest := []) ⟨hx, hb, hml, hown, hts⟩ (f_X12_copyRow_bridge_40 l dC dI H.size m18 k18) (va_cwS 4 hts (gk_S (wl_mem 1 rfl) (wl_mem 2 rfl) (wl_mem 3 rfl) (fun w h => List.mem_cons_of_mem _ (List.mem_append_right _ (List.mem_append_right _ (List.mem_append_right _ (List.mem_append_right _ (List.mem_append_left _ h)))))) wkg_f_X12_copyRow_bridge_40) rfl rfl rfl (by decide +kernel) ⟨Nat.le_of_ble_eq_true rfl, Nat.le_of_ble_eq_true rfl⟩) ⟨fun a U g mk q => by obtain ⟨q0, q1, qP, qK, qD⟩ := q; exact ⟨q0, q1, qP, va_K.moved (u := U) (U := U.calling g mk a) (Vm.Alike.refl U.vm) qK, qD⟩, fun U hU hW => ⟨rfl, by rw [hU], by rw [hU]; exact hPc, va_K.moved hW.alike hKc, hDc.weaken (fun _ _ _ _ => trivial)⟩⟩ rfl rfl hl.1 rfl (lv_room (Nat.le_of_ble_eq_true rfl)) dX12_copyValley_29 ⟨Nat.le_of_ble_eq_true rfl, Nat.le_of_ble_eq_true rfl⟩) hS (fun q _ h => hFc q h) hFc (fun u t H1 locs ht hvm hz5 hB hz1 hk1 hS => ?_)
  obtain ⟨hP1, hK1, hD1⟩ := hB
  rw [ht] at hP1
  have hK1 := va_K.moved hvm.symm hK1
  obtain ⟨hP, hD⟩ := va_join (wr := [(h0, .inr (12, [.int 0, .ref m1, .ref m2, .ref m3, .ref m4, .ref m5, .int 0, .int 0, .int 0, .int 0, .int 0, .long 0, .int 0, .int bp, .int 0, .int (-1), .ref m16, .ref m17, .ref m18, .ref m19, .ref m20, .ref m21, .ref m22, .ref m23, .int 0, .int 0, .int 0, .ref m27, .ref m28, .ref m29, .ref m30, .ref m31, .ref m32, .ref m33, .ref m34, .ref m35, .ref m36, .ref m37, .ref m38, .ref m39, .ref m40, .ref m41, .ref m42, .int 0, .int 0, .int 0, .ref m46, .int 0, .int 0, .int 0, .int 0, .int 0, .int 0, .ref m53, .int 0, .int 0, .int 0, .ref m57, .ref m58])), (m19, .inl (k19, 70, .inl (fun _ => 0))), (m20, .inl (k20, 75, .inl (fun _ => 0))), (m21, .inl (k21, 20, .inl (fun _ => 0))), (m22, .inl (k22, 450, .inl (fun _ => 0))), (m16, .inl (k16, 5, .inl (fun _ => 0))), (m17, .inl (k17, 40, .inl (fun _ => 0)))]) (w1 := [(m18, .inl (k18, 30, .inl (fun _ => 0)))]) hP hD [1] [0, 2, 3, 4, 5, 6, 7] rfl rfl (by decide) (by decide) hk1 hFc hP1 hD1
  have hK := (hK.sub (tys' := [(k19, .int), (k20, .int), (k21, .int), (k22, .int), (k16, .int), (k17, .int)]) [1, 2, 3, 4, 5, 6] rfl).app hK1
  generalize H1 = H at hP hS ⊢
  have hK : va_K (dC, dI) vwCl [(k19, .int), (k20, .int), (k21, .int), (k22, .int), (k16, .int), (k17, .int), (k18, .int)] s := hK
  have hP : va_P (dC, dI) vwCl [(h0, .inr (12, [.int 0, .ref m1, .ref m2, .ref m3, .ref m4, .ref m5, .int 0, .int 0, .int 0, .int 0, .int 0, .long 0, .int 0, .int bp, .int 0, .int (-1), .ref m16, .ref m17, .ref m18, .ref m19, .ref m20, .ref m21, .ref m22, .ref m23, .int 0, .int 0, .int 0, .ref m27, .ref m28, .ref m29, .ref m30, .ref m31, .ref m32, .ref m33, .ref m34, .ref m35, .ref m36, .ref m37, .ref m38, .ref m39, .ref m40, .ref m41, .ref m42, .int 0, .int 0, .int 0, .ref m46, .int 0, .int 0, .int 0, .int 0, .int 0, .int 0, .ref m53, .int 0, .int 0, .int 0, .ref m57, .ref m58])), (m19, .inl (k19, 70, .inl (fun _ => 0))), (m20, .inl (k20, 75, .inl (fun _ => 0))), (m21, .inl (k21, 20, .inl (fun _ => 0))), (m22, .inl (k22, 450, .inl (fun _ => 0))), (m16, .inl (k16, 5, .inl (fun _ => 0))), (m17, .inl (k17, 40, .inl (fun _ => 0))), (m18, .inl (k18, 30, .inl (fun _ => 0)))] H := hP
  have hD : va_D A [(h0, .inr (12, [.int 0, .ref m1, .ref m2, .ref m3, .ref m4, .ref m5, .int 0, .int 0, .int 0, .int 0, .int 0, .long 0, .int 0, .int bp, .int 0, .int (-1), .ref m16, .ref m17, .ref m18, .ref m19, .ref m20, .ref m21, .ref m22, .ref m23, .int 0, .int 0, .int 0, .ref m27, .ref m28, .ref m29, .ref m30, .ref m31, .ref m32, .ref m33, .ref m34, .ref m35, .ref m36, .ref m37, .ref m38, .ref m39, .ref m40, .ref m41, .ref m42, .int 0, .int 0, .int 0, .ref m46, .int 0, .int 0, .int 0, .int 0, .int 0, .int 0, .ref m53, .int 0, .int 0, .int 0, .ref m57, .ref m58])), (m19, .inl (k19, 70, .inl (fun _ => 0))), (m20, .inl (k20, 75, .inl (fun _ => 0))), (m21, .inl (k21, 20, .inl (fun _ => 0))), (m22, .inl (k22, 450, .inl (fun _ => 0))), (m16, .inl (k16, 5, .inl (fun _ => 0))), (m17, .inl (k17, 40, .inl (fun _ => 0))), (m18, .inl (k18, 30, .inl (fun _ => 0)))] := hD
  refine W.widen (k := 0) (n := 0) (Nat.le_of_ble_eq_true rfl) (Nat.le_of_ble_eq_true rfl) ?_
  refine lv_aload_n hx hb dX12_copyValley_32 rfl (lv_at hl 0 rfl) ?_
  refine va_get (D := (dC, dI)) (ci := 12) (v := .ref m19) (C := RX12) (T := TX12) (N := 59) hx hb hts (fun w h => List.mem_cons_of_mem _ (List.mem_append_right _ (List.mem_append_left _ h))) hown hK hP 0 rfl rfl 19 (by decide) (hts (.fieldLink RX12 40 "SagMemoryModel" "cart" "[I") (wl_mem 6 rfl)) (fun _ h9 => h9) rfl dX12_copyValley_33 ?_
  refine lv_bipush (v := 14) hx hb dX12_copyValley_36 (by decide) ?_
  refine lv_iload_n hx hb dX12_copyValley_38 rfl (lv_at hl 1 rfl) ?_
  refine lv_iload_n hx hb dX12_copyValley_39 rfl (lv_at hl 2 rfl) ?_
  have hPc := hP.sub (ws' := [(m19, .inl (k19, 70, .inl (fun _ => 0)))]) [1] rfl
  have hKc := hK.sub (tys' := [(k19, .int)]) [0] rfl
  have hDc := hD.sub (ws' := [(m19, .inl (k19, 70, .inl (fun _ => 0)))]) [1] (by decide) rfl
  have hFc := va_free (wc := [(m19, .inl (k19, 70, .inl (fun _ => 0)))]) hD hS hA [1] rfl
  refine va_callv (va_runS (As := [.ref m19, .int 14, .int 4, .int 0]) (rest := []) ⟨hx, hb, hml, hown, hts⟩ (f_X12_copyRow_cart_40 l dC dI H.size m19 k19) (va_cwS 4 hts (gk_S (wl_mem 1 rfl) (wl_mem 2 rfl) (wl_mem 3 rfl) (fun w h => List.mem_cons_of_mem _ (List.mem_append_right _ (List.mem_append_right _ (List.mem_append_right _ (List.mem_append_right _ (List.mem_append_right _ (List.mem_append_left _ h))))))) wkg_f_X12_copyRow_cart_40) rfl rfl rfl (by decide +kernel) ⟨Nat.le_of_ble_eq_true rfl, Nat.le_of_ble_eq_true rfl⟩) ⟨fun a U g mk q => by obtain ⟨q0, q1, qP, qK, qD⟩ := q; exact ⟨q0, q1, qP, va_K.moved (u := U) (U := U.calling g mk a) (Vm.Alike.refl U.vm) qK, qD⟩, fun U hU hW => ⟨rfl, by rw [hU], by rw [hU]; exact hPc, va_K.moved hW.alike hKc, hDc.weaken (fun _ _ _ _ => trivial)⟩⟩ rfl rfl hl.1 rfl (lv_room (Nat.le_of_ble_eq_true rfl)) dX12_copyValley_40 ⟨Nat.le_of_ble_eq_true rfl, Nat.le_of_ble_eq_true rfl⟩) hS (fun q _ h => hFc q h) hFc (fun u t H1 locs ht hvm hz7 hB hz1 hk1 hS => ?_)
  obtain ⟨hP1, hK1, hD1⟩ := hB
  rw [ht] at hP1
  have hK1 := va_K.moved hvm.symm hK1
  obtain ⟨hP, hD⟩ := va_join (wr := [(h0, .inr (12, [.int 0, .ref m1, .ref m2, .ref m3, .ref m4, .ref m5, .int 0, .int 0, .int 0, .int 0, .int 0, .long 0, .int 0, .int bp, .int 0, .int (-1), .ref m16, .ref m17, .ref m18, .ref m19, .ref m20, .ref m21, .ref m22, .ref m23, .int 0, .int 0, .int 0, .ref m27, .ref m28, .ref m29, .ref m30, .ref m31, .ref m32, .ref m33, .ref m34, .ref m35, .ref m36, .ref m37, .ref m38, .ref m39, .ref m40, .ref m41, .ref m42, .int 0, .int 0, .int 0, .ref m46, .int 0, .int 0, .int 0, .int 0, .int 0, .int 0, .ref m53, .int 0, .int 0, .int 0, .ref m57, .ref m58])), (m20, .inl (k20, 75, .inl (fun _ => 0))), (m21, .inl (k21, 20, .inl (fun _ => 0))), (m22, .inl (k22, 450, .inl (fun _ => 0))), (m16, .inl (k16, 5, .inl (fun _ => 0))), (m17, .inl (k17, 40, .inl (fun _ => 0))), (m18, .inl (k18, 30, .inl (fun _ => 0)))]) (w1 := [(m19, .inl (k19, 70, .inl (fun _ => 0)))]) hP hD [1] [0, 2, 3, 4, 5, 6, 7] rfl rfl (by decide) (by decide) hk1 hFc hP1 hD1
  have hK := (hK.sub (tys' := [(k20, .int), (k21, .int), (k22, .int), (k16, .int), (k17, .int), (k18, .int)]) [1, 2, 3, 4, 5, 6] rfl).app hK1
  generalize H1 = H at hP hS ⊢
  have hK : va_K (dC, dI) vwCl [(k20, .int), (k21, .int), (k22, .int), (k16, .int), (k17, .int), (k18, .int), (k19, .int)] s := hK
  have hP : va_P (dC, dI) vwCl [(h0, .inr (12, [.int 0, .ref m1, .ref m2, .ref m3, .ref m4, .ref m5, .int 0, .int 0, .int 0, .int 0, .int 0, .long 0, .int 0, .int bp, .int 0, .int (-1), .ref m16, .ref m17, .ref m18, .ref m19, .ref m20, .ref m21, .ref m22, .ref m23, .int 0, .int 0, .int 0, .ref m27, .ref m28, .ref m29, .ref m30, .ref m31, .ref m32, .ref m33, .ref m34, .ref m35, .ref m36, .ref m37, .ref m38, .ref m39, .ref m40, .ref m41, .ref m42, .int 0, .int 0, .int 0, .ref m46, .int 0, .int 0, .int 0, .int 0, .int 0, .int 0, .ref m53, .int 0, .int 0, .int 0, .ref m57, .ref m58])), (m20, .inl (k20, 75, .inl (fun _ => 0))), (m21, .inl (k21, 20, .inl (fun _ => 0))), (m22, .inl (k22, 450, .inl (fun _ => 0))), (m16, .inl (k16, 5, .inl (fun _ => 0))), (m17, .inl (k17, 40, .inl (fun _ => 0))), (m18, .inl (k18, 30, .inl (fun _ => 0))), (m19, .inl (k19, 70, .inl (fun _ => 0)))] H := hP
  have hD : va_D A [(h0, .inr (12, [.int 0, .ref m1, .ref m2, .ref m3, .ref m4, .ref m5, .int 0, .int 0, .int 0, .int 0, .int 0, .long 0, .int 0, .int bp, .int 0, .int (-1), .ref m16, .ref m17, .ref m18, .ref m19, .ref m20, .ref m21, .ref m22, .ref m23, .int 0, .int 0, .int 0, .ref m27, .ref m28, .ref m29, .ref m30, .ref m31, .ref m32, .ref m33, .ref m34, .ref m35, .ref m36, .ref m37, .ref m38, .ref m39, .ref m40, .ref m41, .ref m42, .int 0, .int 0, .int 0, .ref m46, .int 0, .int 0, .int 0, .int 0, .int 0, .int 0, .ref m53, .int 0, .int 0, .int 0, .ref m57, .ref m58])), (m20, .inl (k20, 75, .inl (fun _ => 0))), (m21, .inl (k21, 20, .inl (fun _ => 0))), (m22, .inl (k22, 450, .inl (fun _ => 0))), (m16, .inl (k16, 5, .inl (fun _ => 0))), (m17, .inl (k17, 40, .inl (fun _ => 0))), (m18, .inl (k18, 30, .inl (fun _ => 0))), (m19, .inl (k19, 70, .inl (fun _ => 0)))] := hD
  refine W.widen (k := 0) (n := 0) (Nat.le_of_ble_eq_true rfl) (Nat.le_of_ble_eq_true rfl) ?_
  refine lv_aload_n hx hb dX12_copyValley_43 rfl (lv_at hl 0 rfl) ?_
  refine va_get (D := (dC, dI)) (ci := 12) (v := .ref m20) (C := RX12) (T := TX12) (N := 59) hx hb hts (fun w h => List.mem_cons_of_mem _ (List.mem_append_right _ (List.mem_append_left _ h))) hown hK hP 0 rfl rfl 20 (by decide) (hts (.fieldLink RX12 43 "SagMemoryModel" "ward" "[I") (wl_mem 7 rfl)) (fun _ h9 => h9) rfl dX12_copyValley_44 ?_
  refine lv_bipush (v := 15) hx hb dX12_copyValley_47 (by decide) ?_
  refine lv_iload_n hx hb dX12_copyValley_49 rfl (lv_at hl 1 rfl) ?_
  refine lv_iload_n hx hb dX12_copyValley_50 rfl (lv_at hl 2 rfl) ?_
  have hPc := hP.sub (ws' := [(m20, .inl (k20, 75, .inl (fun _ => 0)))]) [1] rfl
  have hKc := hK.sub (tys' := [(k20, .int)]) [0] rfl
  have hDc := hD.sub (ws' := [(m20, .inl (k20, 75, .inl (fun _ => 0)))]) [1] (by decide) rfl
  have hFc := va_free (wc := [(m20, .inl (k20, 75, .inl (fun _ => 0)))]) hD hS hA [1] rfl
  refine va_callv (va_runS (As := [.ref m20, .int 15, .int 4, .int 0]) (rest := []) ⟨hx, hb, hml, hown, hts⟩ (f_X12_copyRow_ward_40 l dC dI H.size m20 k20) (va_cwS 4 hts (gk_S (wl_mem 1 rfl) (wl_mem 2 rfl) (wl_mem 3 rfl) (fun w h => List.mem_cons_of_mem _ (List.mem_append_right _ (List.mem_append_right _ (List.mem_append_right _ (List.mem_append_right _ (List.mem_append_right _ (List.mem_append_right _ (List.mem_append_left _ h)))))))) wkg_f_X12_copyRow_ward_40) rfl rfl rfl (by decide +kernel) ⟨Nat.le_of_ble_eq_true rfl, Nat.le_of_ble_eq_true rfl⟩) ⟨fun a U g mk q => by obtain ⟨q0, q1, qP, qK, qD⟩ := q; exact ⟨q0, q1, qP, va_K.moved (u := U) (U := U.calling g mk a) (Vm.Alike.refl U.vm) qK, qD⟩, fun U hU hW => ⟨rfl, by rw [hU], by rw [hU]; exact hPc, va_K.moved hW.alike hKc, hDc.weaken (fun _ _ _ _ => trivial)⟩⟩ rfl rfl hl.1 rfl (lv_room (Nat.le_of_ble_eq_true rfl)) dX12_copyValley_51 ⟨Nat.le_of_ble_eq_true rfl, Nat.le_of_ble_eq_true rfl⟩) hS (fun q _ h => hFc q h) hFc (fun u t H1 locs ht hvm hz9 hB hz1 hk1 hS => ?_)
  obtain ⟨hP1, hK1, hD1⟩ := hB
  rw [ht] at hP1
  have hK1 := va_K.moved hvm.symm hK1
  obtain ⟨hP, hD⟩ := va_join (wr := [(h0, .inr (12, [.int 0, .ref m1, .ref m2, .ref m3, .ref m4, .ref m5, .int 0, .int 0, .int 0, .int 0, .int 0, .long 0, .int 0, .int bp, .int 0, .int (-1), .ref m16, .ref m17, .ref m18, .ref m19, .ref m20, .ref m21, .ref m22, .ref m23, .int 0, .int 0, .int 0, .ref m27, .ref m28, .ref m29, .ref m30, .ref m31, .ref m32, .ref m33, .ref m34, .ref m35, .ref m36, .ref m37, .ref m38, .ref m39, .ref m40, .ref m41, .ref m42, .int 0, .int 0, .int 0, .ref m46, .int 0, .int 0, .int 0, .int 0, .int 0, .int 0, .ref m53, .int 0, .int 0, .int 0, .ref m57, .ref m58])), (m21, .inl (k21, 20, .inl (fun _ => 0))), (m22, .inl (k22, 450, .inl (fun _ => 0))), (m16, .inl (k16, 5, .inl (fun _ => 0))), (m17, .inl (k17, 40, .inl (fun _ => 0))), (m18, .inl (k18, 30, .inl (fun _ => 0))), (m19, .inl (k19, 70, .inl (fun _ => 0)))]) (w1 := [(m20, .inl (k20, 75, .inl (fun _ => 0)))]) hP hD [1] [0, 2, 3, 4, 5, 6, 7] rfl rfl (by decide) (by decide) hk1 hFc hP1 hD1
  have hK := (hK.sub (tys' := [(k21, .int), (k22, .int), (k16, .int), (k17, .int), (k18, .int), (k19, .int)]) [1, 2, 3, 4, 5, 6] rfl).app hK1
  generalize H1 = H at hP hS ⊢
  have hK : va_K (dC, dI) vwCl [(k21, .int), (k22, .int), (k16, .int), (k17, .int), (k18, .int), (k19, .int), (k20, .int)] s := hK
  have hP : va_P (dC, dI) vwCl [(h0, .inr (12, [.int 0, .ref m1, .ref m2, .ref m3, .ref m4, .ref m5, .int 0, .int 0, .int 0, .int 0, .int 0, .long 0, .int 0, .int bp, .int 0, .int (-1), .ref m16, .ref m17, .ref m18, .ref m19, .ref m20, .ref m21, .ref m22, .ref m23, .int 0, .int 0, .int 0, .ref m27, .ref m28, .ref m29, .ref m30, .ref m31, .ref m32, .ref m33, .ref m34, .ref m35, .ref m36, .ref m37, .ref m38, .ref m39, .ref m40, .ref m41, .ref m42, .int 0, .int 0, .int 0, .ref m46, .int 0, .int 0, .int 0, .int 0, .int 0, .int 0, .ref m53, .int 0, .int 0, .int 0, .ref m57, .ref m58])), (m21, .inl (k21, 20, .inl (fun _ => 0))), (m22, .inl (k22, 450, .inl (fun _ => 0))), (m16, .inl (k16, 5, .inl (fun _ => 0))), (m17, .inl (k17, 40, .inl (fun _ => 0))), (m18, .inl (k18, 30, .inl (fun _ => 0))), (m19, .inl (k19, 70, .inl (fun _ => 0))), (m20, .inl (k20, 75, .inl (fun _ => 0)))] H := hP
  have hD : va_D A [(h0, .inr (12, [.int 0, .ref m1, .ref m2, .ref m3, .ref m4, .ref m5, .int 0, .int 0, .int 0, .int 0, .int 0, .long 0, .int 0, .int bp, .int 0, .int (-1), .ref m16, .ref m17, .ref m18, .ref m19, .ref m20, .ref m21, .ref m22, .ref m23, .int 0, .int 0, .int 0, .ref m27, .ref m28, .ref m29, .ref m30, .ref m31, .ref m32, .ref m33, .ref m34, .ref m35, .ref m36, .ref m37, .ref m38, .ref m39, .ref m40, .ref m41, .ref m42, .int 0, .int 0, .int 0, .ref m46, .int 0, .int 0, .int 0, .int 0, .int 0, .int 0, .ref m53, .int 0, .int 0, .int 0, .ref m57, .ref m58])), (m21, .inl (k21, 20, .inl (fun _ => 0))), (m22, .inl (k22, 450, .inl (fun _ => 0))), (m16, .inl (k16, 5, .inl (fun _ => 0))), (m17, .inl (k17, 40, .inl (fun _ => 0))), (m18, .inl (k18, 30, .inl (fun _ => 0))), (m19, .inl (k19, 70, .inl (fun _ => 0))), (m20, .inl (k20, 75, .inl (fun _ => 0)))] := hD
  refine W.widen (k := 0) (n := 0) (Nat.le_of_ble_eq_true rfl) (Nat.le_of_ble_eq_true rfl) ?_
  refine lv_aload_n hx hb dX12_copyValley_54 rfl (lv_at hl 0 rfl) ?_
  refine va_get (D := (dC, dI)) (ci := 12) (v := .ref m21) (C := RX12) (T := TX12) (N := 59) hx hb hts (fun w h => List.mem_cons_of_mem _ (List.mem_append_right _ (List.mem_append_left _ h))) hown hK hP 0 rfl rfl 21 (by decide) (hts (.fieldLink RX12 46 "SagMemoryModel" "frostAt" "[I") (wl_mem 8 rfl)) (fun _ h9 => h9) rfl dX12_copyValley_55 ?_
  refine lv_iconst (v := 4) hx hb dX12_copyValley_58 (by decide) ?_
  refine lv_iload_n hx hb dX12_copyValley_59 rfl (lv_at hl 1 rfl) ?_
  refine lv_iload_n hx hb dX12_copyValley_60 rfl (lv_at hl 2 rfl) ?_
  have hPc := hP.sub (ws' := [(m21, .inl (k21, 20, .inl (fun _ => 0)))]) [1] rfl
  have hKc := hK.sub (tys' := [(k21, .int)]) [0] rfl
  have hDc := hD.sub (ws' := [(m21, .inl (k21, 20, .inl (fun _ => 0)))]) [1] (by decide) rfl
  have hFc := va_free (wc := [(m21, .inl (k21, 20, .inl (fun _ => 0)))]) hD hS hA [1] rfl
  refine va_callv (va_runS (As := [.ref m21, .int 4, .int 4, .int 0]) (rest := []) ⟨hx, hb, hml, hown, hts⟩ (f_X12_copyRow_frostAt_40 l dC dI H.size m21 k21) (va_cwS 4 hts (gk_S (wl_mem 1 rfl) (wl_mem 2 rfl) (wl_mem 3 rfl) (fun w h => List.mem_cons_of_mem _ (List.mem_append_right _ (List.mem_append_right _ (List.mem_append_right _ (List.mem_append_right _ (List.mem_append_right _ (List.mem_append_right _ (List.mem_append_right _ (List.mem_append_left _ h))))))))) wkg_f_X12_copyRow_frostAt_40) rfl rfl rfl (by decide +kernel) ⟨Nat.le_of_ble_eq_true rfl, Nat.le_of_ble_eq_true rfl⟩) ⟨fun a U g mk q => by obtain ⟨q0, q1, qP, qK, qD⟩ := q; exact ⟨q0, q1, qP, va_K.moved (u := U) (U := U.calling g mk a) (Vm.Alike.refl U.vm) qK, qD⟩, fun U hU hW => ⟨rfl, by rw [hU], by rw [hU]; exact hPc, va_K.moved hW.alike hKc, hDc.weaken (fun _ _ _ _ => trivial)⟩⟩ rfl rfl hl.1 rfl (lv_room (Nat.le_of_ble_eq_true rfl)) dX12_copyValley_61 ⟨Nat.le_of_ble_eq_true rfl, Nat.le_of_ble_eq_true rfl⟩) hS (fun q _ h => hFc q h) hFc (fun u t H1 locs ht hvm hz11 hB hz1 hk1 hS => ?_)
  obtain ⟨hP1, hK1, hD1⟩ := hB
  rw [ht] at hP1
  have hK1 := va_K.moved hvm.symm hK1
  obtain ⟨hP, hD⟩ := va_join (wr := [(h0, .inr (12, [.int 0, .ref m1, .ref m2, .ref m3, .ref m4, .ref m5, .int 0, .int 0, .int 0, .int 0, .int 0, .long 0, .int 0, .int bp, .int 0, .int (-1), .ref m16, .ref m17, .ref m18, .ref m19, .ref m20, .ref m21, .ref m22, .ref m23, .int 0, .int 0, .int 0, .ref m27, .ref m28, .ref m29, .ref m30, .ref m31, .ref m32, .ref m33, .ref m34, .ref m35, .ref m36, .ref m37, .ref m38, .ref m39, .ref m40, .ref m41, .ref m42, .int 0, .int 0, .int 0, .ref m46, .int 0, .int 0, .int 0, .int 0, .int 0, .int 0, .ref m53, .int 0, .int 0, .int 0, .ref m57, .ref m58])), (m22, .inl (k22, 450, .inl (fun _ => 0))), (m16, .inl (k16, 5, .inl (fun _ => 0))), (m17, .inl (k17, 40, .inl (fun _ => 0))), (m18, .inl (k18, 30, .inl (fun _ => 0))), (m19, .inl (k19, 70, .inl (fun _ => 0))), (m20, .inl (k20, 75, .inl (fun _ => 0)))]) (w1 := [(m21, .inl (k21, 20, .inl (fun _ => 0)))]) hP hD [1] [0, 2, 3, 4, 5, 6, 7] rfl rfl (by decide) (by decide) hk1 hFc hP1 hD1
  have hK := (hK.sub (tys' := [(k22, .int), (k16, .int), (k17, .int), (k18, .int), (k19, .int), (k20, .int)]) [1, 2, 3, 4, 5, 6] rfl).app hK1
  generalize H1 = H at hP hS ⊢
  have hK : va_K (dC, dI) vwCl [(k22, .int), (k16, .int), (k17, .int), (k18, .int), (k19, .int), (k20, .int), (k21, .int)] s := hK
  have hP : va_P (dC, dI) vwCl [(h0, .inr (12, [.int 0, .ref m1, .ref m2, .ref m3, .ref m4, .ref m5, .int 0, .int 0, .int 0, .int 0, .int 0, .long 0, .int 0, .int bp, .int 0, .int (-1), .ref m16, .ref m17, .ref m18, .ref m19, .ref m20, .ref m21, .ref m22, .ref m23, .int 0, .int 0, .int 0, .ref m27, .ref m28, .ref m29, .ref m30, .ref m31, .ref m32, .ref m33, .ref m34, .ref m35, .ref m36, .ref m37, .ref m38, .ref m39, .ref m40, .ref m41, .ref m42, .int 0, .int 0, .int 0, .ref m46, .int 0, .int 0, .int 0, .int 0, .int 0, .int 0, .ref m53, .int 0, .int 0, .int 0, .ref m57, .ref m58])), (m22, .inl (k22, 450, .inl (fun _ => 0))), (m16, .inl (k16, 5, .inl (fun _ => 0))), (m17, .inl (k17, 40, .inl (fun _ => 0))), (m18, .inl (k18, 30, .inl (fun _ => 0))), (m19, .inl (k19, 70, .inl (fun _ => 0))), (m20, .inl (k20, 75, .inl (fun _ => 0))), (m21, .inl (k21, 20, .inl (fun _ => 0)))] H := hP
  have hD : va_D A [(h0, .inr (12, [.int 0, .ref m1, .ref m2, .ref m3, .ref m4, .ref m5, .int 0, .int 0, .int 0, .int 0, .int 0, .long 0, .int 0, .int bp, .int 0, .int (-1), .ref m16, .ref m17, .ref m18, .ref m19, .ref m20, .ref m21, .ref m22, .ref m23, .int 0, .int 0, .int 0, .ref m27, .ref m28, .ref m29, .ref m30, .ref m31, .ref m32, .ref m33, .ref m34, .ref m35, .ref m36, .ref m37, .ref m38, .ref m39, .ref m40, .ref m41, .ref m42, .int 0, .int 0, .int 0, .ref m46, .int 0, .int 0, .int 0, .int 0, .int 0, .int 0, .ref m53, .int 0, .int 0, .int 0, .ref m57, .ref m58])), (m22, .inl (k22, 450, .inl (fun _ => 0))), (m16, .inl (k16, 5, .inl (fun _ => 0))), (m17, .inl (k17, 40, .inl (fun _ => 0))), (m18, .inl (k18, 30, .inl (fun _ => 0))), (m19, .inl (k19, 70, .inl (fun _ => 0))), (m20, .inl (k20, 75, .inl (fun _ => 0))), (m21, .inl (k21, 20, .inl (fun _ => 0)))] := hD
  refine W.widen (k := 0) (n := 0) (Nat.le_of_ble_eq_true rfl) (Nat.le_of_ble_eq_true rfl) ?_
  refine lv_aload_n hx hb dX12_copyValley_64 rfl (lv_at hl 0 rfl) ?_
  refine va_get (D := (dC, dI)) (ci := 12) (v := .ref m22) (C := RX12) (T := TX12) (N := 59) hx hb hts (fun w h => List.mem_cons_of_mem _ (List.mem_append_right _ (List.mem_append_left _ h))) hown hK hP 0 rfl rfl 22 (by decide) (hts (.fieldLink RX12 49 "SagMemoryModel" "act" "[I") (wl_mem 9 rfl)) (fun _ h9 => h9) rfl dX12_copyValley_65 ?_
  refine lv_bipush (v := 90) hx hb dX12_copyValley_68 (by decide) ?_
  refine lv_iload_n hx hb dX12_copyValley_70 rfl (lv_at hl 1 rfl) ?_
  refine lv_iload_n hx hb dX12_copyValley_71 rfl (lv_at hl 2 rfl) ?_
  have hPc := hP.sub (ws' := [(m22, .inl (k22, 450, .inl (fun _ => 0)))]) [1] rfl
  have hKc := hK.sub (tys' := [(k22, .int)]) [0] rfl
  have hDc := hD.sub (ws' := [(m22, .inl (k22, 450, .inl (fun _ => 0)))]) [1] (by decide) rfl
  have hFc := va_free (wc := [(m22, .inl (k22, 450, .inl (fun _ => 0)))]) hD hS hA [1] rfl
  refine va_callv (va_runS (As := [.ref m22, .int 90, .int 4, .int 0]) (rest := []) ⟨hx, hb, hml, hown, hts⟩ (f_X12_copyRow_act_40 l dC dI H.size m22 k22) (va_cwS 4 hts (gk_S (wl_mem 1 rfl) (wl_mem 2 rfl) (wl_mem 3 rfl) (fun w h => List.mem_cons_of_mem _ (List.mem_append_right _ (List.mem_append_right _ (List.mem_append_right _ (List.mem_append_right _ (List.mem_append_right _ (List.mem_append_right _ (List.mem_append_right _ (List.mem_append_right _ (List.mem_append_left _ h)))))))))) wkg_f_X12_copyRow_act_40) rfl rfl rfl (by decide +kernel) ⟨Nat.le_of_ble_eq_true rfl, Nat.le_of_ble_eq_true rfl⟩) ⟨fun a U g mk q => by obtain ⟨q0, q1, qP, qK, qD⟩ := q; exact ⟨q0, q1, qP, va_K.moved (u := U) (U := U.calling g mk a) (Vm.Alike.refl U.vm) qK, qD⟩, fun U hU hW => ⟨rfl, by rw [hU], by rw [hU]; exact hPc, va_K.moved hW.alike hKc, hDc.weaken (fun _ _ _ _ => trivial)⟩⟩ rfl rfl hl.1 rfl (lv_room (Nat.le_of_ble_eq_true rfl)) dX12_copyValley_72 ⟨Nat.le_of_ble_eq_true rfl, Nat.le_of_ble_eq_true rfl⟩) hS (fun q _ h => hFc q h) hFc (fun u t H1 locs ht hvm hz13 hB hz1 hk1 hS => ?_)
  obtain ⟨hP1, hK1, hD1⟩ := hB
  rw [ht] at hP1
  have hK1 := va_K.moved hvm.symm hK1
  obtain ⟨hP, hD⟩ := va_join (wr := [(h0, .inr (12, [.int 0, .ref m1, .ref m2, .ref m3, .ref m4, .ref m5, .int 0, .int 0, .int 0, .int 0, .int 0, .long 0, .int 0, .int bp, .int 0, .int (-1), .ref m16, .ref m17, .ref m18, .ref m19, .ref m20, .ref m21, .ref m22, .ref m23, .int 0, .int 0, .int 0, .ref m27, .ref m28, .ref m29, .ref m30, .ref m31, .ref m32, .ref m33, .ref m34, .ref m35, .ref m36, .ref m37, .ref m38, .ref m39, .ref m40, .ref m41, .ref m42, .int 0, .int 0, .int 0, .ref m46, .int 0, .int 0, .int 0, .int 0, .int 0, .int 0, .ref m53, .int 0, .int 0, .int 0, .ref m57, .ref m58])), (m16, .inl (k16, 5, .inl (fun _ => 0))), (m17, .inl (k17, 40, .inl (fun _ => 0))), (m18, .inl (k18, 30, .inl (fun _ => 0))), (m19, .inl (k19, 70, .inl (fun _ => 0))), (m20, .inl (k20, 75, .inl (fun _ => 0))), (m21, .inl (k21, 20, .inl (fun _ => 0)))]) (w1 := [(m22, .inl (k22, 450, .inl (fun _ => 0)))]) hP hD [1] [0, 2, 3, 4, 5, 6, 7] rfl rfl (by decide) (by decide) hk1 hFc hP1 hD1
  have hK := (hK.sub (tys' := [(k16, .int), (k17, .int), (k18, .int), (k19, .int), (k20, .int), (k21, .int)]) [1, 2, 3, 4, 5, 6] rfl).app hK1
  generalize H1 = H at hP hS ⊢
  have hK : va_K (dC, dI) vwCl [(k16, .int), (k17, .int), (k18, .int), (k19, .int), (k20, .int), (k21, .int), (k22, .int)] s := hK
  have hP : va_P (dC, dI) vwCl [(h0, .inr (12, [.int 0, .ref m1, .ref m2, .ref m3, .ref m4, .ref m5, .int 0, .int 0, .int 0, .int 0, .int 0, .long 0, .int 0, .int bp, .int 0, .int (-1), .ref m16, .ref m17, .ref m18, .ref m19, .ref m20, .ref m21, .ref m22, .ref m23, .int 0, .int 0, .int 0, .ref m27, .ref m28, .ref m29, .ref m30, .ref m31, .ref m32, .ref m33, .ref m34, .ref m35, .ref m36, .ref m37, .ref m38, .ref m39, .ref m40, .ref m41, .ref m42, .int 0, .int 0, .int 0, .ref m46, .int 0, .int 0, .int 0, .int 0, .int 0, .int 0, .ref m53, .int 0, .int 0, .int 0, .ref m57, .ref m58])), (m16, .inl (k16, 5, .inl (fun _ => 0))), (m17, .inl (k17, 40, .inl (fun _ => 0))), (m18, .inl (k18, 30, .inl (fun _ => 0))), (m19, .inl (k19, 70, .inl (fun _ => 0))), (m20, .inl (k20, 75, .inl (fun _ => 0))), (m21, .inl (k21, 20, .inl (fun _ => 0))), (m22, .inl (k22, 450, .inl (fun _ => 0)))] H := hP
  have hD : va_D A [(h0, .inr (12, [.int 0, .ref m1, .ref m2, .ref m3, .ref m4, .ref m5, .int 0, .int 0, .int 0, .int 0, .int 0, .long 0, .int 0, .int bp, .int 0, .int (-1), .ref m16, .ref m17, .ref m18, .ref m19, .ref m20, .ref m21, .ref m22, .ref m23, .int 0, .int 0, .int 0, .ref m27, .ref m28, .ref m29, .ref m30, .ref m31, .ref m32, .ref m33, .ref m34, .ref m35, .ref m36, .ref m37, .ref m38, .ref m39, .ref m40, .ref m41, .ref m42, .int 0, .int 0, .int 0, .ref m46, .int 0, .int 0, .int 0, .int 0, .int 0, .int 0, .ref m53, .int 0, .int 0, .int 0, .ref m57, .ref m58])), (m16, .inl (k16, 5, .inl (fun _ => 0))), (m17, .inl (k17, 40, .inl (fun _ => 0))), (m18, .inl (k18, 30, .inl (fun _ => 0))), (m19, .inl (k19, 70, .inl (fun _ => 0))), (m20, .inl (k20, 75, .inl (fun _ => 0))), (m21, .inl (k21, 20, .inl (fun _ => 0))), (m22, .inl (k22, 450, .inl (fun _ => 0)))] := hD
  refine W.widen (k := 0) (n := 0) (Nat.le_of_ble_eq_true rfl) (Nat.le_of_ble_eq_true rfl) ?_
  have hP9 := hP.sub (ws' := [(h0, .inr (12, [.int 0, .ref m1, .ref m2, .ref m3, .ref m4, .ref m5, .int 0, .int 0, .int 0, .int 0, .int 0, .long 0, .int 0, .int bp, .int 0, .int (-1), .ref m16, .ref m17, .ref m18, .ref m19, .ref m20, .ref m21, .ref m22, .ref m23, .int 0, .int 0, .int 0, .ref m27, .ref m28, .ref m29, .ref m30, .ref m31, .ref m32, .ref m33, .ref m34, .ref m35, .ref m36, .ref m37, .ref m38, .ref m39, .ref m40, .ref m41, .ref m42, .int 0, .int 0, .int 0, .ref m46, .int 0, .int 0, .int 0, .int 0, .int 0, .int 0, .ref m53, .int 0, .int 0, .int 0, .ref m57, .ref m58])), (m16, .inl (k16, 5, .inl (fun _ => 0))), (m17, .inl (k17, 40, .inl (fun _ => 0))), (m18, .inl (k18, 30, .inl (fun _ => 0))), (m19, .inl (k19, 70, .inl (fun _ => 0))), (m20, .inl (k20, 75, .inl (fun _ => 0))), (m21, .inl (k21, 20, .inl (fun _ => 0))), (m22, .inl (k22, 450, .inl (fun _ => 0)))]) [0, 1, 2, 3, 4, 5, 6, 7] rfl
  have hD9 := hD.sub (ws' := [(h0, .inr (12, [.int 0, .ref m1, .ref m2, .ref m3, .ref m4, .ref m5, .int 0, .int 0, .int 0, .int 0, .int 0, .long 0, .int 0, .int bp, .int 0, .int (-1), .ref m16, .ref m17, .ref m18, .ref m19, .ref m20, .ref m21, .ref m22, .ref m23, .int 0, .int 0, .int 0, .ref m27, .ref m28, .ref m29, .ref m30, .ref m31, .ref m32, .ref m33, .ref m34, .ref m35, .ref m36, .ref m37, .ref m38, .ref m39, .ref m40, .ref m41, .ref m42, .int 0, .int 0, .int 0, .ref m46, .int 0, .int 0, .int 0, .int 0, .int 0, .int 0, .ref m53, .int 0, .int 0, .int 0, .ref m57, .ref m58])), (m16, .inl (k16, 5, .inl (fun _ => 0))), (m17, .inl (k17, 40, .inl (fun _ => 0))), (m18, .inl (k18, 30, .inl (fun _ => 0))), (m19, .inl (k19, 70, .inl (fun _ => 0))), (m20, .inl (k20, 75, .inl (fun _ => 0))), (m21, .inl (k21, 20, .inl (fun _ => 0))), (m22, .inl (k22, 450, .inl (fun _ => 0)))]) [0, 1, 2, 3, 4, 5, 6, 7] (by decide) rfl
  have hK9 := hK.sub (tys' := [(k16, .int), (k17, .int), (k18, .int), (k19, .int), (k20, .int), (k21, .int), (k22, .int)]) [0, 1, 2, 3, 4, 5, 6] rfl
  exact W.vret hx hb hr (fun t ht hW => ⟨⟨(), rfl, trivial, by rw [ht]; exact hP9, va_K.moved hW.alike hK9, hD9⟩, hS.F ht⟩) hS.2.2 dX12_copyValley_75
def wk_f_X12_copyValley_01 : List Cond := .code yX12_copyValley cX12_copyValley 3 none :: ([.fieldLink RX12 31 "SagMemoryModel" "lines" "[I", .methodLink RX12 279 yX12_copyRow, .static yX12_copyRow, .initialized RX12, .fieldLink RX12 34 "SagMemoryModel" "has" "[I", .fieldLink RX12 37 "SagMemoryModel" "bridge" "[I", .fieldLink RX12 40 "SagMemoryModel" "cart" "[I", .fieldLink RX12 43 "SagMemoryModel" "ward" "[I", .fieldLink RX12 46 "SagMemoryModel" "frostAt" "[I", .fieldLink RX12 49 "SagMemoryModel" "act" "[I"] ++ (wsX120 ++ (wk_f_X12_copyRow_lines_01 ++ (wk_f_X12_copyRow_has_01 ++ (wk_f_X12_copyRow_bridge_01 ++ (wk_f_X12_copyRow_cart_01 ++ (wk_f_X12_copyRow_ward_01 ++ (wk_f_X12_copyRow_frostAt_01 ++ (wk_f_X12_copyRow_act_01 ++ [])))))))))
theorem wkg_f_X12_copyValley_01 : wk_f_X12_copyValley_01.all goodWord = true := by decide +kernel
set_option maxHeartbeats 4000000 in
set_option maxRecDepth 100000 in
theorem f_X12_copyValley_01 (l : Launch) (dC : Nat → ClassId) (dI : Nat → Nat → Nat) (sz : Nat) (h0 : Nat) (m1 : Nat) (m2 : Nat) (m3 : Nat) (m4 : Nat) (m5 : Nat) (m16 : Nat) (m17 : Nat) (m18 : Nat) (m19 : Nat) (m20 : Nat) (m21 : Nat) (m22 : Nat) (m23 : Nat) (m27 : Nat) (m28 : Nat) (m29 : Nat) (m30 : Nat) (m31 : Nat) (m32 : Nat) (m33 : Nat) (m34 : Nat) (m35 : Nat) (m36 : Nat) (m37 : Nat) (m38 : Nat) (m39 : Nat) (m40 : Nat) (m41 : Nat) (m42 : Nat) (m46 : Nat) (m53 : Nat) (m57 : Nat) (m58 : Nat) (k16 : ClassId) (k17 : ClassId) (k18 : ClassId) (k19 : ClassId) (k20 : ClassId) (k21 : ClassId) (k22 : ClassId) (bp : Int32) : Met l yX12_copyValley wk_f_X12_copyValley_01 ({ frames := 1, cells := 0, slots := 0, locals := 24 }) (va_Pc [.ref h0, .int 0, .int 1] (fun U => U.heap.size = sz ∧ va_P (dC, dI) vwCl [(h0, .inr (12, [.int 0, .ref m1, .ref m2, .ref m3, .ref m4, .ref m5, .int 0, .int 0, .int 0, .int 0, .int 0, .long 0, .int 0, .int bp, .int 0, .int (-1), .ref m16, .ref m17, .ref m18, .ref m19, .ref m20, .ref m21, .ref m22, .ref m23, .int 0, .int 0, .int 0, .ref m27, .ref m28, .ref m29, .ref m30, .ref m31, .ref m32, .ref m33, .ref m34, .ref m35, .ref m36, .ref m37, .ref m38, .ref m39, .ref m40, .ref m41, .ref m42, .int 0, .int 0, .int 0, .ref m46, .int 0, .int 0, .int 0, .int 0, .int 0, .int 0, .ref m53, .int 0, .int 0, .int 0, .ref m57, .ref m58])), (m16, .inl (k16, 5, .inl (fun _ => 0))), (m17, .inl (k17, 40, .inl (fun _ => 0))), (m18, .inl (k18, 30, .inl (fun _ => 0))), (m19, .inl (k19, 70, .inl (fun _ => 0))), (m20, .inl (k20, 75, .inl (fun _ => 0))), (m21, .inl (k21, 20, .inl (fun _ => 0))), (m22, .inl (k22, 450, .inl (fun _ => 0)))] U.heap ∧ va_K (dC, dI) vwCl [(k16, .int), (k17, .int), (k18, .int), (k19, .int), (k20, .int), (k21, .int), (k22, .int)] U ∧ va_D (fun _ => True) [(h0, .inr (12, [.int 0, .ref m1, .ref m2, .ref m3, .ref m4, .ref m5, .int 0, .int 0, .int 0, .int 0, .int 0, .long 0, .int 0, .int bp, .int 0, .int (-1), .ref m16, .ref m17, .ref m18, .ref m19, .ref m20, .ref m21, .ref m22, .ref m23, .int 0, .int 0, .int 0, .ref m27, .ref m28, .ref m29, .ref m30, .ref m31, .ref m32, .ref m33, .ref m34, .ref m35, .ref m36, .ref m37, .ref m38, .ref m39, .ref m40, .ref m41, .ref m42, .int 0, .int 0, .int 0, .ref m46, .int 0, .int 0, .int 0, .int 0, .int 0, .int 0, .ref m53, .int 0, .int 0, .int 0, .ref m57, .ref m58])), (m16, .inl (k16, 5, .inl (fun _ => 0))), (m17, .inl (k17, 40, .inl (fun _ => 0))), (m18, .inl (k18, 30, .inl (fun _ => 0))), (m19, .inl (k19, 70, .inl (fun _ => 0))), (m20, .inl (k20, 75, .inl (fun _ => 0))), (m21, .inl (k21, 20, .inl (fun _ => 0))), (m22, .inl (k22, 450, .inl (fun _ => 0)))])) (va_Qv (fun _ : Unit => True) (fun (_ : Unit) (t : State) => va_P (dC, dI) vwCl [(h0, .inr (12, [.int 0, .ref m1, .ref m2, .ref m3, .ref m4, .ref m5, .int 0, .int 0, .int 0, .int 0, .int 0, .long 0, .int 0, .int bp, .int 0, .int (-1), .ref m16, .ref m17, .ref m18, .ref m19, .ref m20, .ref m21, .ref m22, .ref m23, .int 0, .int 0, .int 0, .ref m27, .ref m28, .ref m29, .ref m30, .ref m31, .ref m32, .ref m33, .ref m34, .ref m35, .ref m36, .ref m37, .ref m38, .ref m39, .ref m40, .ref m41, .ref m42, .int 0, .int 0, .int 0, .ref m46, .int 0, .int 0, .int 0, .int 0, .int 0, .int 0, .ref m53, .int 0, .int 0, .int 0, .ref m57, .ref m58])), (m16, .inl (k16, 5, .inl (fun _ => 0))), (m17, .inl (k17, 40, .inl (fun _ => 0))), (m18, .inl (k18, 30, .inl (fun _ => 0))), (m19, .inl (k19, 70, .inl (fun _ => 0))), (m20, .inl (k20, 75, .inl (fun _ => 0))), (m21, .inl (k21, 20, .inl (fun _ => 0))), (m22, .inl (k22, 450, .inl (fun _ => 0)))] t.heap ∧ va_K (dC, dI) vwCl [(k16, .int), (k17, .int), (k18, .int), (k19, .int), (k20, .int), (k21, .int), (k22, .int)] t ∧ va_D (va_A [(h0, .inr (12, [.int 0, .ref m1, .ref m2, .ref m3, .ref m4, .ref m5, .int 0, .int 0, .int 0, .int 0, .int 0, .long 0, .int 0, .int bp, .int 0, .int (-1), .ref m16, .ref m17, .ref m18, .ref m19, .ref m20, .ref m21, .ref m22, .ref m23, .int 0, .int 0, .int 0, .ref m27, .ref m28, .ref m29, .ref m30, .ref m31, .ref m32, .ref m33, .ref m34, .ref m35, .ref m36, .ref m37, .ref m38, .ref m39, .ref m40, .ref m41, .ref m42, .int 0, .int 0, .int 0, .ref m46, .int 0, .int 0, .int 0, .int 0, .int 0, .int 0, .ref m53, .int 0, .int 0, .int 0, .ref m57, .ref m58])), (m16, .inl (k16, 5, .inl (fun _ => 0))), (m17, .inl (k17, 40, .inl (fun _ => 0))), (m18, .inl (k18, 30, .inl (fun _ => 0))), (m19, .inl (k19, 70, .inl (fun _ => 0))), (m20, .inl (k20, 75, .inl (fun _ => 0))), (m21, .inl (k21, 20, .inl (fun _ => 0))), (m22, .inl (k22, 450, .inl (fun _ => 0)))] sz) [(h0, .inr (12, [.int 0, .ref m1, .ref m2, .ref m3, .ref m4, .ref m5, .int 0, .int 0, .int 0, .int 0, .int 0, .long 0, .int 0, .int bp, .int 0, .int (-1), .ref m16, .ref m17, .ref m18, .ref m19, .ref m20, .ref m21, .ref m22, .ref m23, .int 0, .int 0, .int 0, .ref m27, .ref m28, .ref m29, .ref m30, .ref m31, .ref m32, .ref m33, .ref m34, .ref m35, .ref m36, .ref m37, .ref m38, .ref m39, .ref m40, .ref m41, .ref m42, .int 0, .int 0, .int 0, .ref m46, .int 0, .int 0, .int 0, .int 0, .int 0, .int 0, .ref m53, .int 0, .int 0, .int 0, .ref m57, .ref m58])), (m16, .inl (k16, 5, .inl (fun _ => 0))), (m17, .inl (k17, 40, .inl (fun _ => 0))), (m18, .inl (k18, 30, .inl (fun _ => 0))), (m19, .inl (k19, 70, .inl (fun _ => 0))), (m20, .inl (k20, 75, .inl (fun _ => 0))), (m21, .inl (k21, 20, .inl (fun _ => 0))), (m22, .inl (k22, 450, .inl (fun _ => 0)))]) (va_A [(h0, .inr (12, [.int 0, .ref m1, .ref m2, .ref m3, .ref m4, .ref m5, .int 0, .int 0, .int 0, .int 0, .int 0, .long 0, .int 0, .int bp, .int 0, .int (-1), .ref m16, .ref m17, .ref m18, .ref m19, .ref m20, .ref m21, .ref m22, .ref m23, .int 0, .int 0, .int 0, .ref m27, .ref m28, .ref m29, .ref m30, .ref m31, .ref m32, .ref m33, .ref m34, .ref m35, .ref m36, .ref m37, .ref m38, .ref m39, .ref m40, .ref m41, .ref m42, .int 0, .int 0, .int 0, .ref m46, .int 0, .int 0, .int 0, .int 0, .int 0, .int 0, .ref m53, .int 0, .int 0, .int 0, .ref m57, .ref m58])), (m16, .inl (k16, 5, .inl (fun _ => 0))), (m17, .inl (k17, 40, .inl (fun _ => 0))), (m18, .inl (k18, 30, .inl (fun _ => 0))), (m19, .inl (k19, 70, .inl (fun _ => 0))), (m20, .inl (k20, 75, .inl (fun _ => 0))), (m21, .inl (k21, 20, .inl (fun _ => 0))), (m22, .inl (k22, 450, .inl (fun _ => 0)))] sz)) 0 0 (va_A [(h0, .inr (12, [.int 0, .ref m1, .ref m2, .ref m3, .ref m4, .ref m5, .int 0, .int 0, .int 0, .int 0, .int 0, .long 0, .int 0, .int bp, .int 0, .int (-1), .ref m16, .ref m17, .ref m18, .ref m19, .ref m20, .ref m21, .ref m22, .ref m23, .int 0, .int 0, .int 0, .ref m27, .ref m28, .ref m29, .ref m30, .ref m31, .ref m32, .ref m33, .ref m34, .ref m35, .ref m36, .ref m37, .ref m38, .ref m39, .ref m40, .ref m41, .ref m42, .int 0, .int 0, .int 0, .ref m46, .int 0, .int 0, .int 0, .int 0, .int 0, .int 0, .ref m53, .int 0, .int 0, .int 0, .ref m57, .ref m58])), (m16, .inl (k16, 5, .inl (fun _ => 0))), (m17, .inl (k17, 40, .inl (fun _ => 0))), (m18, .inl (k18, 30, .inl (fun _ => 0))), (m19, .inl (k19, 70, .inl (fun _ => 0))), (m20, .inl (k20, 75, .inl (fun _ => 0))), (m21, .inl (k21, 20, .inl (fun _ => 0))), (m22, .inl (k22, 450, .inl (fun _ => 0)))] sz) := by
  refine Met.ofW (cc := cX12_copyValley) (maxL := 3) (ret := none) (by decide) rfl ?_
  intro p e s m args below meth c s₁ B hml hv
  obtain ⟨rfl, hsz, hP, hK, hD0⟩ := hv
  have hx := B.exec
  have hb := B.bytes
  have hr := B.returns
  have hts := atoms_spec (ws := wk_f_X12_copyValley_01) B.pre
  have hown : s.vm.findClass RX12 = some m.cls := findClass_of_methodNamed B.named
  have hlocks := B.notSynchronized
  subst hsz
  have hD := hD0.self (sz := s.heap.size)
  generalize hAe : va_A [(h0, .inr (12, [.int 0, .ref m1, .ref m2, .ref m3, .ref m4, .ref m5, .int 0, .int 0, .int 0, .int 0, .int 0, .long 0, .int 0, .int bp, .int 0, .int (-1), .ref m16, .ref m17, .ref m18, .ref m19, .ref m20, .ref m21, .ref m22, .ref m23, .int 0, .int 0, .int 0, .ref m27, .ref m28, .ref m29, .ref m30, .ref m31, .ref m32, .ref m33, .ref m34, .ref m35, .ref m36, .ref m37, .ref m38, .ref m39, .ref m40, .ref m41, .ref m42, .int 0, .int 0, .int 0, .ref m46, .int 0, .int 0, .int 0, .int 0, .int 0, .int 0, .ref m53, .int 0, .int 0, .int 0, .ref m57, .ref m58])), (m16, .inl (k16, 5, .inl (fun _ => 0))), (m17, .inl (k17, 40, .inl (fun _ => 0))), (m18, .inl (k18, 30, .inl (fun _ => 0))), (m19, .inl (k19, 70, .inl (fun _ => 0))), (m20, .inl (k20, 75, .inl (fun _ => 0))), (m21, .inl (k21, 20, .inl (fun _ => 0))), (m22, .inl (k22, 450, .inl (fun _ => 0)))] s.heap.size = A at hD ⊢
  have hA : ∀ q : Nat, s.heap.size ≤ q → A q := fun q h => by rw [← hAe]; exact Or.inr h
  have hS : va_S A s.heap s.heap [] := va_S.rf
  have hP : va_P (dC, dI) vwCl [(h0, .inr (12, [.int 0, .ref m1, .ref m2, .ref m3, .ref m4, .ref m5, .int 0, .int 0, .int 0, .int 0, .int 0, .long 0, .int 0, .int bp, .int 0, .int (-1), .ref m16, .ref m17, .ref m18, .ref m19, .ref m20, .ref m21, .ref m22, .ref m23, .int 0, .int 0, .int 0, .ref m27, .ref m28, .ref m29, .ref m30, .ref m31, .ref m32, .ref m33, .ref m34, .ref m35, .ref m36, .ref m37, .ref m38, .ref m39, .ref m40, .ref m41, .ref m42, .int 0, .int 0, .int 0, .ref m46, .int 0, .int 0, .int 0, .int 0, .int 0, .int 0, .ref m53, .int 0, .int 0, .int 0, .ref m57, .ref m58])), (m16, .inl (k16, 5, .inl (fun _ => 0))), (m17, .inl (k17, 40, .inl (fun _ => 0))), (m18, .inl (k18, 30, .inl (fun _ => 0))), (m19, .inl (k19, 70, .inl (fun _ => 0))), (m20, .inl (k20, 75, .inl (fun _ => 0))), (m21, .inl (k21, 20, .inl (fun _ => 0))), (m22, .inl (k22, 450, .inl (fun _ => 0)))] s.heap := hP
  have hl := lv_entry ([.ref h0, .int 0, .int 1]) (n := 3) (Nat.le_of_ble_eq_true rfl)
  rw [lg_entry_eq]
  generalize (lg_sl ([.ref h0, .int 0, .int 1]) ++ List.replicate (3 - (lg_sl ([.ref h0, .int 0, .int 1])).length) Slot.unset).toArray = ls at hl ⊢
  have hl : lv_has ls 3 [(0, .ref h0), (1, .int 0), (2, .int 1)] := hl
  refine lv_aload_n hx hb dX12_copyValley_0 rfl (lv_at hl 0 rfl) ?_
  refine va_get (D := (dC, dI)) (ci := 12) (v := .ref m16) (C := RX12) (T := TX12) (N := 59) hx hb hts (fun w h => List.mem_cons_of_mem _ (List.mem_append_right _ (List.mem_append_left _ h))) hown hK hP 0 rfl rfl 16 (by decide) (hts (.fieldLink RX12 31 "SagMemoryModel" "lines" "[I") (wl_mem 0 rfl)) (fun _ h9 => h9) rfl dX12_copyValley_1 ?_
  refine lv_iconst (v := 1) hx hb dX12_copyValley_4 (by decide) ?_
  refine lv_iload_n hx hb dX12_copyValley_5 rfl (lv_at hl 1 rfl) ?_
  refine lv_iload_n hx hb dX12_copyValley_6 rfl (lv_at hl 2 rfl) ?_
  have hPc := hP.sub (ws' := [(m16, .inl (k16, 5, .inl (fun _ => 0)))]) [1] rfl
  have hKc := hK.sub (tys' := [(k16, .int)]) [0] rfl
  have hDc := hD.sub (ws' := [(m16, .inl (k16, 5, .inl (fun _ => 0)))]) [1] (by decide) rfl
  have hFc := va_free (wc := [(m16, .inl (k16, 5, .inl (fun _ => 0)))]) hD hS hA [1] rfl
  refine va_callv (va_runS (As := [.ref m16, .int 1, .int 0, .int 1]) (rest := []) ⟨hx, hb, hml, hown, hts⟩ (f_X12_copyRow_lines_01 l dC dI s.heap.size m16 k16) (va_cwS 4 hts (gk_S (wl_mem 1 rfl) (wl_mem 2 rfl) (wl_mem 3 rfl) (fun w h => List.mem_cons_of_mem _ (List.mem_append_right _ (List.mem_append_right _ (List.mem_append_left _ h)))) wkg_f_X12_copyRow_lines_01) rfl rfl rfl (by decide +kernel) ⟨Nat.le_of_ble_eq_true rfl, Nat.le_of_ble_eq_true rfl⟩) ⟨fun a U g mk q => by obtain ⟨q0, q1, qP, qK, qD⟩ := q; exact ⟨q0, q1, qP, va_K.moved (u := U) (U := U.calling g mk a) (Vm.Alike.refl U.vm) qK, qD⟩, fun U hU hW => ⟨rfl, by rw [hU], by rw [hU]; exact hPc, va_K.moved hW.alike hKc, hDc.weaken (fun _ _ _ _ => trivial)⟩⟩ rfl rfl hl.1 rfl (lv_room (Nat.le_of_ble_eq_true rfl)) dX12_copyValley_7 ⟨Nat.le_of_ble_eq_true rfl, Nat.le_of_ble_eq_true rfl⟩) hS (fun q _ h => hFc q h) hFc (fun u t H1 locs ht hvm hz1 hB hz1 hk1 hS => ?_)
  obtain ⟨hP1, hK1, hD1⟩ := hB
  rw [ht] at hP1
  have hK1 := va_K.moved hvm.symm hK1
  obtain ⟨hP, hD⟩ := va_join (wr := [(h0, .inr (12, [.int 0, .ref m1, .ref m2, .ref m3, .ref m4, .ref m5, .int 0, .int 0, .int 0, .int 0, .int 0, .long 0, .int 0, .int bp, .int 0, .int (-1), .ref m16, .ref m17, .ref m18, .ref m19, .ref m20, .ref m21, .ref m22, .ref m23, .int 0, .int 0, .int 0, .ref m27, .ref m28, .ref m29, .ref m30, .ref m31, .ref m32, .ref m33, .ref m34, .ref m35, .ref m36, .ref m37, .ref m38, .ref m39, .ref m40, .ref m41, .ref m42, .int 0, .int 0, .int 0, .ref m46, .int 0, .int 0, .int 0, .int 0, .int 0, .int 0, .ref m53, .int 0, .int 0, .int 0, .ref m57, .ref m58])), (m17, .inl (k17, 40, .inl (fun _ => 0))), (m18, .inl (k18, 30, .inl (fun _ => 0))), (m19, .inl (k19, 70, .inl (fun _ => 0))), (m20, .inl (k20, 75, .inl (fun _ => 0))), (m21, .inl (k21, 20, .inl (fun _ => 0))), (m22, .inl (k22, 450, .inl (fun _ => 0)))]) (w1 := [(m16, .inl (k16, 5, .inl (fun _ => 0)))]) hP hD [1] [0, 2, 3, 4, 5, 6, 7] rfl rfl (by decide) (by decide) hk1 hFc hP1 hD1
  have hK := (hK.sub (tys' := [(k17, .int), (k18, .int), (k19, .int), (k20, .int), (k21, .int), (k22, .int)]) [1, 2, 3, 4, 5, 6] rfl).app hK1
  generalize H1 = H at hP hS ⊢
  have hK : va_K (dC, dI) vwCl [(k17, .int), (k18, .int), (k19, .int), (k20, .int), (k21, .int), (k22, .int), (k16, .int)] s := hK
  have hP : va_P (dC, dI) vwCl [(h0, .inr (12, [.int 0, .ref m1, .ref m2, .ref m3, .ref m4, .ref m5, .int 0, .int 0, .int 0, .int 0, .int 0, .long 0, .int 0, .int bp, .int 0, .int (-1), .ref m16, .ref m17, .ref m18, .ref m19, .ref m20, .ref m21, .ref m22, .ref m23, .int 0, .int 0, .int 0, .ref m27, .ref m28, .ref m29, .ref m30, .ref m31, .ref m32, .ref m33, .ref m34, .ref m35, .ref m36, .ref m37, .ref m38, .ref m39, .ref m40, .ref m41, .ref m42, .int 0, .int 0, .int 0, .ref m46, .int 0, .int 0, .int 0, .int 0, .int 0, .int 0, .ref m53, .int 0, .int 0, .int 0, .ref m57, .ref m58])), (m17, .inl (k17, 40, .inl (fun _ => 0))), (m18, .inl (k18, 30, .inl (fun _ => 0))), (m19, .inl (k19, 70, .inl (fun _ => 0))), (m20, .inl (k20, 75, .inl (fun _ => 0))), (m21, .inl (k21, 20, .inl (fun _ => 0))), (m22, .inl (k22, 450, .inl (fun _ => 0))), (m16, .inl (k16, 5, .inl (fun _ => 0)))] H := hP
  have hD : va_D A [(h0, .inr (12, [.int 0, .ref m1, .ref m2, .ref m3, .ref m4, .ref m5, .int 0, .int 0, .int 0, .int 0, .int 0, .long 0, .int 0, .int bp, .int 0, .int (-1), .ref m16, .ref m17, .ref m18, .ref m19, .ref m20, .ref m21, .ref m22, .ref m23, .int 0, .int 0, .int 0, .ref m27, .ref m28, .ref m29, .ref m30, .ref m31, .ref m32, .ref m33, .ref m34, .ref m35, .ref m36, .ref m37, .ref m38, .ref m39, .ref m40, .ref m41, .ref m42, .int 0, .int 0, .int 0, .ref m46, .int 0, .int 0, .int 0, .int 0, .int 0, .int 0, .ref m53, .int 0, .int 0, .int 0, .ref m57, .ref m58])), (m17, .inl (k17, 40, .inl (fun _ => 0))), (m18, .inl (k18, 30, .inl (fun _ => 0))), (m19, .inl (k19, 70, .inl (fun _ => 0))), (m20, .inl (k20, 75, .inl (fun _ => 0))), (m21, .inl (k21, 20, .inl (fun _ => 0))), (m22, .inl (k22, 450, .inl (fun _ => 0))), (m16, .inl (k16, 5, .inl (fun _ => 0)))] := hD
  refine W.widen (k := 0) (n := 0) (Nat.le_of_ble_eq_true rfl) (Nat.le_of_ble_eq_true rfl) ?_
  refine lv_aload_n hx hb dX12_copyValley_10 rfl (lv_at hl 0 rfl) ?_
  refine va_get (D := (dC, dI)) (ci := 12) (v := .ref m17) (C := RX12) (T := TX12) (N := 59) hx hb hts (fun w h => List.mem_cons_of_mem _ (List.mem_append_right _ (List.mem_append_left _ h))) hown hK hP 0 rfl rfl 17 (by decide) (hts (.fieldLink RX12 34 "SagMemoryModel" "has" "[I") (wl_mem 4 rfl)) (fun _ h9 => h9) rfl dX12_copyValley_11 ?_
  refine lv_bipush (v := 8) hx hb dX12_copyValley_14 (by decide) ?_
  refine lv_iload_n hx hb dX12_copyValley_16 rfl (lv_at hl 1 rfl) ?_
  refine lv_iload_n hx hb dX12_copyValley_17 rfl (lv_at hl 2 rfl) ?_
  have hPc := hP.sub (ws' := [(m17, .inl (k17, 40, .inl (fun _ => 0)))]) [1] rfl
  have hKc := hK.sub (tys' := [(k17, .int)]) [0] rfl
  have hDc := hD.sub (ws' := [(m17, .inl (k17, 40, .inl (fun _ => 0)))]) [1] (by decide) rfl
  have hFc := va_free (wc := [(m17, .inl (k17, 40, .inl (fun _ => 0)))]) hD hS hA [1] rfl
  refine va_callv (va_runS (As := [.ref m17, .int 8, .int 0, .int 1]) (rest := []) ⟨hx, hb, hml, hown, hts⟩ (f_X12_copyRow_has_01 l dC dI H.size m17 k17) (va_cwS 4 hts (gk_S (wl_mem 1 rfl) (wl_mem 2 rfl) (wl_mem 3 rfl) (fun w h => List.mem_cons_of_mem _ (List.mem_append_right _ (List.mem_append_right _ (List.mem_append_right _ (List.mem_append_left _ h))))) wkg_f_X12_copyRow_has_01) rfl rfl rfl (by decide +kernel) ⟨Nat.le_of_ble_eq_true rfl, Nat.le_of_ble_eq_true rfl⟩) ⟨fun a U g mk q => by obtain ⟨q0, q1, qP, qK, qD⟩ := q; exact ⟨q0, q1, qP, va_K.moved (u := U) (U := U.calling g mk a) (Vm.Alike.refl U.vm) qK, qD⟩, fun U hU hW => ⟨rfl, by rw [hU], by rw [hU]; exact hPc, va_K.moved hW.alike hKc, hDc.weaken (fun _ _ _ _ => trivial)⟩⟩ rfl rfl hl.1 rfl (lv_room (Nat.le_of_ble_eq_true rfl)) dX12_copyValley_18 ⟨Nat.le_of_ble_eq_true rfl, Nat.le_of_ble_eq_true rfl⟩) hS (fun q _ h => hFc q h) hFc (fun u t H1 locs ht hvm hz3 hB hz1 hk1 hS => ?_)
  obtain ⟨hP1, hK1, hD1⟩ := hB
  rw [ht] at hP1
  have hK1 := va_K.moved hvm.symm hK1
  obtain ⟨hP, hD⟩ := va_join (wr := [(h0, .inr (12, [.int 0, .ref m1, .ref m2, .ref m3, .ref m4, .ref m5, .int 0, .int 0, .int 0, .int 0, .int 0, .long 0, .int 0, .int bp, .int 0, .int (-1), .ref m16, .ref m17, .ref m18, .ref m19, .ref m20, .ref m21, .ref m22, .ref m23, .int 0, .int 0, .int 0, .ref m27, .ref m28, .ref m29, .ref m30, .ref m31, .ref m32, .ref m33, .ref m34, .ref m35, .ref m36, .ref m37, .ref m38, .ref m39, .ref m40, .ref m41, .ref m42, .int 0, .int 0, .int 0, .ref m46, .int 0, .int 0, .int 0, .int 0, .int 0, .int 0, .ref m53, .int 0, .int 0, .int 0, .ref m57, .ref m58])), (m18, .inl (k18, 30, .inl (fun _ => 0))), (m19, .inl (k19, 70, .inl (fun _ => 0))), (m20, .inl (k20, 75, .inl (fun _ => 0))), (m21, .inl (k21, 20, .inl (fun _ => 0))), (m22, .inl (k22, 450, .inl (fun _ => 0))), (m16, .inl (k16, 5, .inl (fun _ => 0)))]) (w1 := [(m17, .inl (k17, 40, .inl (fun _ => 0)))]) hP hD [1] [0, 2, 3, 4, 5, 6, 7] rfl rfl (by decide) (by decide) hk1 hFc hP1 hD1
  have hK := (hK.sub (tys' := [(k18, .int), (k19, .int), (k20, .int), (k21, .int), (k22, .int), (k16, .int)]) [1, 2, 3, 4, 5, 6] rfl).app hK1
  generalize H1 = H at hP hS ⊢
  have hK : va_K (dC, dI) vwCl [(k18, .int), (k19, .int), (k20, .int), (k21, .int), (k22, .int), (k16, .int), (k17, .int)] s := hK
  have hP : va_P (dC, dI) vwCl [(h0, .inr (12, [.int 0, .ref m1, .ref m2, .ref m3, .ref m4, .ref m5, .int 0, .int 0, .int 0, .int 0, .int 0, .long 0, .int 0, .int bp, .int 0, .int (-1), .ref m16, .ref m17, .ref m18, .ref m19, .ref m20, .ref m21, .ref m22, .ref m23, .int 0, .int 0, .int 0, .ref m27, .ref m28, .ref m29, .ref m30, .ref m31, .ref m32, .ref m33, .ref m34, .ref m35, .ref m36, .ref m37, .ref m38, .ref m39, .ref m40, .ref m41, .ref m42, .int 0, .int 0, .int 0, .ref m46, .int 0, .int 0, .int 0, .int 0, .int 0, .int 0, .ref m53, .int 0, .int 0, .int 0, .ref m57, .ref m58])), (m18, .inl (k18, 30, .inl (fun _ => 0))), (m19, .inl (k19, 70, .inl (fun _ => 0))), (m20, .inl (k20, 75, .inl (fun _ => 0))), (m21, .inl (k21, 20, .inl (fun _ => 0))), (m22, .inl (k22, 450, .inl (fun _ => 0))), (m16, .inl (k16, 5, .inl (fun _ => 0))), (m17, .inl (k17, 40, .inl (fun _ => 0)))] H := hP
  have hD : va_D A [(h0, .inr (12, [.int 0, .ref m1, .ref m2, .ref m3, .ref m4, .ref m5, .int 0, .int 0, .int 0, .int 0, .int 0, .long 0, .int 0, .int bp, .int 0, .int (-1), .ref m16, .ref m17, .ref m18, .ref m19, .ref m20, .ref m21, .ref m22, .ref m23, .int 0, .int 0, .int 0, .ref m27, .ref m28, .ref m29, .ref m30, .ref m31, .ref m32, .ref m33, .ref m34, .ref m35, .ref m36, .ref m37, .ref m38, .ref m39, .ref m40, .ref m41, .ref m42, .int 0, .int 0, .int 0, .ref m46, .int 0, .int 0, .int 0, .int 0, .int 0, .int 0, .ref m53, .int 0, .int 0, .int 0, .ref m57, .ref m58])), (m18, .inl (k18, 30, .inl (fun _ => 0))), (m19, .inl (k19, 70, .inl (fun _ => 0))), (m20, .inl (k20, 75, .inl (fun _ => 0))), (m21, .inl (k21, 20, .inl (fun _ => 0))), (m22, .inl (k22, 450, .inl (fun _ => 0))), (m16, .inl (k16, 5, .inl (fun _ => 0))), (m17, .inl (k17, 40, .inl (fun _ => 0)))] := hD
  refine W.widen (k := 0) (n := 0) (Nat.le_of_ble_eq_true rfl) (Nat.le_of_ble_eq_true rfl) ?_
  refine lv_aload_n hx hb dX12_copyValley_21 rfl (lv_at hl 0 rfl) ?_
  refine va_get (D := (dC, dI)) (ci := 12) (v := .ref m18) (C := RX12) (T := TX12) (N := 59) hx hb hts (fun w h => List.mem_cons_of_mem _ (List.mem_append_right _ (List.mem_append_left _ h))) hown hK hP 0 rfl rfl 18 (by decide) (hts (.fieldLink RX12 37 "SagMemoryModel" "bridge" "[I") (wl_mem 5 rfl)) (fun _ h9 => h9) rfl dX12_copyValley_22 ?_
  refine lv_bipush (v := 6) hx hb dX12_copyValley_25 (by decide) ?_
  refine lv_iload_n hx hb dX12_copyValley_27 rfl (lv_at hl 1 rfl) ?_
  refine lv_iload_n hx hb dX12_copyValley_28 rfl (lv_at hl 2 rfl) ?_
  have hPc := hP.sub (ws' := [(m18, .inl (k18, 30, .inl (fun _ => 0)))]) [1] rfl
  have hKc := hK.sub (tys' := [(k18, .int)]) [0] rfl
  have hDc := hD.sub (ws' := [(m18, .inl (k18, 30, .inl (fun _ => 0)))]) [1] (by decide) rfl
  have hFc := va_free (wc := [(m18, .inl (k18, 30, .inl (fun _ => 0)))]) hD hS hA [1] rfl
  refine va_callv (va_runS (As := [.ref m18, .int 6, .int 0, .int 1]) (rest := []) ⟨hx, hb, hml, hown, hts⟩ (f_X12_copyRow_bridge_01 l dC dI H.size m18 k18) (va_cwS 4 hts (gk_S (wl_mem 1 rfl) (wl_mem 2 rfl) (wl_mem 3 rfl) (fun w h => List.mem_cons_of_mem _ (List.mem_append_right _ (List.mem_append_right _ (List.mem_append_right _ (List.mem_append_right _ (List.mem_append_left _ h)))))) wkg_f_X12_copyRow_bridge_01) rfl rfl rfl (by decide +kernel) ⟨Nat.le_of_ble_eq_true rfl, Nat.le_of_ble_eq_true rfl⟩) ⟨fun a U g mk q => by obtain ⟨q0, q1, qP, qK, qD⟩ := q; exact ⟨q0, q1, qP, va_K.moved (u := U) (U := U.calling g mk a) (Vm.Alike.refl U.vm) qK, qD⟩, fun U hU hW => ⟨rfl, by rw [hU], by rw [hU]; exact hPc, va_K.moved hW.alike hKc, hDc.weaken (fun _ _ _ _ => trivial)⟩⟩ rfl rfl hl.1 rfl (lv_room (Nat.le_of_ble_eq_true rfl)) dX12_copyValley_29 ⟨Nat.le_of_ble_eq_true rfl, Nat.le_of_ble_eq_true rfl⟩) hS (fun q _ h => hFc q h) hFc (fun u t H1 locs ht hvm hz5 hB hz1 hk1 hS => ?_)
  obtain ⟨hP1, hK1, hD1⟩ := hB
  rw [ht] at hP1
  have hK1 := va_K.moved hvm.symm hK1
  obtain ⟨hP, hD⟩ := va_join (wr := [(h0, .inr (12, [.int 0, .ref m1, .ref m2, .ref m3, .ref m4, .ref m5, .int 0, .int 0, .int 0, .int 0, .int 0, .long 0, .int 0, .int bp, .int 0, .int (-1), .ref m16, .ref m17, .ref m18, .ref m19, .ref m20, .ref m21, .ref m22, .ref m23, .int 0, .int 0, .int 0, .ref m27, .ref m28, .ref m29, .ref m30, .ref m31, .ref m32, .ref m33, .ref m34, .ref m35, .ref m36, .ref m37, .ref m38, .ref m39, .ref m40, .ref m41, .ref m42, .int 0, .int 0, .int 0, .ref m46, .int 0, .int 0, .int 0, .int 0, .int 0, .int 0, .ref m53, .int 0, .int 0, .int 0, .ref m57, .ref m58])), (m19, .inl (k19, 70, .inl (fun _ => 0))), (m20, .inl (k20, 75, .inl (fun _ => 0))), (m21, .inl (k21, 20, .inl (fun _ => 0))), (m22, .inl (k22, 450, .inl (fun _ => 0))), (m16, .inl (k16, 5, .inl (fun _ => 0))), (m17, .inl (k17, 40, .inl (fun _ => 0)))]) (w1 := [(m18, .inl (k18, 30, .inl (fun _ => 0)))]) hP hD [1] [0, 2, 3, 4, 5, 6, 7] rfl rfl (by decide) (by decide) hk1 hFc hP1 hD1
  have hK := (hK.sub (tys' := [(k19, .int), (k20, .int), (k21, .int), (k22, .int), (k16, .int), (k17, .int)]) [1, 2, 3, 4, 5, 6] rfl).app hK1
  generalize H1 = H at hP hS ⊢
  have hK : va_K (dC, dI) vwCl [(k19, .int), (k20, .int), (k21, .int), (k22, .int), (k16, .int), (k17, .int), (k18, .int)] s := hK
  have hP : va_P (dC, dI) vwCl [(h0, .inr (12, [.int 0, .ref m1, .ref m2, .ref m3, .ref m4, .ref m5, .int 0, .int 0, .int 0, .int 0, .int 0, .long 0, .int 0, .int bp, .int 0, .int (-1), .ref m16, .ref m17, .ref m18, .ref m19, .ref m20, .ref m21, .ref m22, .ref m23, .int 0, .int 0, .int 0, .ref m27, .ref m28, .ref m29, .ref m30, .ref m31, .ref m32, .ref m33, .ref m34, .ref m35, .ref m36, .ref m37, .ref m38, .ref m39, .ref m40, .ref m41, .ref m42, .int 0, .int 0, .int 0, .ref m46, .int 0, .int 0, .int 0, .int 0, .int 0, .int 0, .ref m53, .int 0, .int 0, .int 0, .ref m57, .ref m58])), (m19, .inl (k19, 70, .inl (fun _ => 0))), (m20, .inl (k20, 75, .inl (fun _ => 0))), (m21, .inl (k21, 20, .inl (fun _ => 0))), (m22, .inl (k22, 450, .inl (fun _ => 0))), (m16, .inl (k16, 5, .inl (fun _ => 0))), (m17, .inl (k17, 40, .inl (fun _ => 0))), (m18, .inl (k18, 30, .inl (fun _ => 0)))] H := hP
  have hD : va_D A [(h0, .inr (12, [.int 0, .ref m1, .ref m2, .ref m3, .ref m4, .ref m5, .int 0, .int 0, .int 0, .int 0, .int 0, .long 0, .int 0, .int bp, .int 0, .int (-1), .ref m16, .ref m17, .ref m18, .ref m19, .ref m20, .ref m21, .ref m22, .ref m23, .int 0, .int 0, .int 0, .ref m27, .ref m28, .ref m29, .ref m30, .ref m31, .ref m32, .ref m33, .ref m34, .ref m35, .ref m36, .ref m37, .ref m38, .ref m39, .ref m40, .ref m41, .ref m42, .int 0, .int 0, .int 0, .ref m46, .int 0, .int 0, .int 0, .int 0, .int 0, .int 0, .ref m53, .int 0, .int 0, .int 0, .ref m57, .ref m58])), (m19, .inl (k19, 70, .inl (fun _ => 0))), (m20, .inl (k20, 75, .inl (fun _ => 0))), (m21, .inl (k21, 20, .inl (fun _ => 0))), (m22, .inl (k22, 450, .inl (fun _ => 0))), (m16, .inl (k16, 5, .inl (fun _ => 0))), (m17, .inl (k17, 40, .inl (fun _ => 0))), (m18, .inl (k18, 30, .inl (fun _ => 0)))] := hD
  refine W.widen (k := 0) (n := 0) (Nat.le_of_ble_eq_true rfl) (Nat.le_of_ble_eq_true rfl) ?_
  refine lv_aload_n hx hb dX12_copyValley_32 rfl (lv_at hl 0 rfl) ?_
  refine va_get (D := (dC, dI)) (ci := 12) (v := .ref m19) (C := RX12) (T := TX12) (N := 59) hx hb hts (fun w h => List.mem_cons_of_mem _ (List.mem_append_right _ (List.mem_append_left _ h))) hown hK hP 0 rfl rfl 19 (by decide) (hts (.fieldLink RX12 40 "SagMemoryModel" "cart" "[I") (wl_mem 6 rfl)) (fun _ h9 => h9) rfl dX12_copyValley_33 ?_
  refine lv_bipush (v := 14) hx hb dX12_copyValley_36 (by decide) ?_
  refine lv_iload_n hx hb dX12_copyValley_38 rfl (lv_at hl 1 rfl) ?_
  refine lv_iload_n hx hb dX12_copyValley_39 rfl (lv_at hl 2 rfl) ?_
  have hPc := hP.sub (ws' := [(m19, .inl (k19, 70, .inl (fun _ => 0)))]) [1] rfl
  have hKc := hK.sub (tys' := [(k19, .int)]) [0] rfl
  have hDc := hD.sub (ws' := [(m19, .inl (k19, 70, .inl (fun _ => 0)))]) [1] (by decide) rfl
  have hFc := va_free (wc := [(m19, .inl (k19, 70, .inl (fun _ => 0)))]) hD hS hA [1] rfl
  refine va_callv (va_runS (As := [.ref m19, .int 14, .int 0, .int 1]) (rest := []) ⟨hx, hb, hml, hown, hts⟩ (f_X12_copyRow_cart_01 l dC dI H.size m19 k19) (va_cwS 4 hts (gk_S (wl_mem 1 rfl) (wl_mem 2 rfl) (wl_mem 3 rfl) (fun w h => List.mem_cons_of_mem _ (List.mem_append_right _ (List.mem_append_right _ (List.mem_append_right _ (List.mem_append_right _ (List.mem_append_right _ (List.mem_append_left _ h))))))) wkg_f_X12_copyRow_cart_01) rfl rfl rfl (by decide +kernel) ⟨Nat.le_of_ble_eq_true rfl, Nat.le_of_ble_eq_true rfl⟩) ⟨fun a U g mk q => by obtain ⟨q0, q1, qP, qK, qD⟩ := q; exact ⟨q0, q1, qP, va_K.moved (u := U) (U := U.calling g mk a) (Vm.Alike.refl U.vm) qK, qD⟩, fun U hU hW => ⟨rfl, by rw [hU], by rw [hU]; exact hPc, va_K.moved hW.alike hKc, hDc.weaken (fun _ _ _ _ => trivial)⟩⟩ rfl rfl hl.1 rfl (lv_room (Nat.le_of_ble_eq_true rfl)) dX12_copyValley_40 ⟨Nat.le_of_ble_eq_true rfl, Nat.le_of_ble_eq_true rfl⟩) hS (fun q _ h => hFc q h) hFc (fun u t H1 locs ht hvm hz7 hB hz1 hk1 hS => ?_)
  obtain ⟨hP1, hK1, hD1⟩ := hB
  rw [ht] at hP1
  have hK1 := va_K.moved hvm.symm hK1
  obtain ⟨hP, hD⟩ := va_join (wr := [(h0, .inr (12, [.int 0, .ref m1, .ref m2, .ref m3, .ref m4, .ref m5, .int 0, .int 0, .int 0, .int 0, .int 0, .long 0, .int 0, .int bp, .int 0, .int (-1), .ref m16, .ref m17, .ref m18, .ref m19, .ref m20, .ref m21, .ref m22, .ref m23, .int 0, .int 0, .int 0, .ref m27, .ref m28, .ref m29, .ref m30, .ref m31, .ref m32, .ref m33, .ref m34, .ref m35, .ref m36, .ref m37, .ref m38, .ref m39, .ref m40, .ref m41, .ref m42, .int 0, .int 0, .int 0, .ref m46, .int 0, .int 0, .int 0, .int 0, .int 0, .int 0, .ref m53, .int 0, .int 0, .int 0, .ref m57, .ref m58])), (m20, .inl (k20, 75, .inl (fun _ => 0))), (m21, .inl (k21, 20, .inl (fun _ => 0))), (m22, .inl (k22, 450, .inl (fun _ => 0))), (m16, .inl (k16, 5, .inl (fun _ => 0))), (m17, .inl (k17, 40, .inl (fun _ => 0))), (m18, .inl (k18, 30, .inl (fun _ => 0)))]) (w1 := [(m19, .inl (k19, 70, .inl (fun _ => 0)))]) hP hD [1] [0, 2, 3, 4, 5, 6, 7] rfl rfl (by decide) (by decide) hk1 hFc hP1 hD1
  have hK := (hK.sub (tys' := [(k20, .int), (k21, .int), (k22, .int), (k16, .int), (k17, .int), (k18, .int)]) [1, 2, 3, 4, 5, 6] rfl).app hK1
  generalize H1 = H at hP hS ⊢
  have hK : va_K (dC, dI) vwCl [(k20, .int), (k21, .int), (k22, .int), (k16, .int), (k17, .int), (k18, .int), (k19, .int)] s := hK
  have hP : va_P (dC, dI) vwCl [(h0, .inr (12, [.int 0, .ref m1, .ref m2, .ref m3, .ref m4, .ref m5, .int 0, .int 0, .int 0, .int 0, .int 0, .long 0, .int 0, .int bp, .int 0, .int (-1), .ref m16, .ref m17, .ref m18, .ref m19, .ref m20, .ref m21, .ref m22, .ref m23, .int 0, .int 0, .int 0, .ref m27, .ref m28, .ref m29, .ref m30, .ref m31, .ref m32, .ref m33, .ref m34, .ref m35, .ref m36, .ref m37, .ref m38, .ref m39, .ref m40, .ref m41, .ref m42, .int 0, .int 0, .int 0, .ref m46, .int 0, .int 0, .int 0, .int 0, .int 0, .int 0, .ref m53, .int 0, .int 0, .int 0, .ref m57, .ref m58])), (m20, .inl (k20, 75, .inl (fun _ => 0))), (m21, .inl (k21, 20, .inl (fun _ => 0))), (m22, .inl (k22, 450, .inl (fun _ => 0))), (m16, .inl (k16, 5, .inl (fun _ => 0))), (m17, .inl (k17, 40, .inl (fun _ => 0))), (m18, .inl (k18, 30, .inl (fun _ => 0))), (m19, .inl (k19, 70, .inl (fun _ => 0)))] H := hP
  have hD : va_D A [(h0, .inr (12, [.int 0, .ref m1, .ref m2, .ref m3, .ref m4, .ref m5, .int 0, .int 0, .int 0, .int 0, .int 0, .long 0, .int 0, .int bp, .int 0, .int (-1), .ref m16, .ref m17, .ref m18, .ref m19, .ref m20, .ref m21, .ref m22, .ref m23, .int 0, .int 0, .int 0, .ref m27, .ref m28, .ref m29, .ref m30, .ref m31, .ref m32, .ref m33, .ref m34, .ref m35, .ref m36, .ref m37, .ref m38, .ref m39, .ref m40, .ref m41, .ref m42, .int 0, .int 0, .int 0, .ref m46, .int 0, .int 0, .int 0, .int 0, .int 0, .int 0, .ref m53, .int 0, .int 0, .int 0, .ref m57, .ref m58])), (m20, .inl (k20, 75, .inl (fun _ => 0))), (m21, .inl (k21, 20, .inl (fun _ => 0))), (m22, .inl (k22, 450, .inl (fun _ => 0))), (m16, .inl (k16, 5, .inl (fun _ => 0))), (m17, .inl (k17, 40, .inl (fun _ => 0))), (m18, .inl (k18, 30, .inl (fun _ => 0))), (m19, .inl (k19, 70, .inl (fun _ => 0)))] := hD
  refine W.widen (k := 0) (n := 0) (Nat.le_of_ble_eq_true rfl) (Nat.le_of_ble_eq_true rfl) ?_
  refine lv_aload_n hx hb dX12_copyValley_43 rfl (lv_at hl 0 rfl) ?_
  refine va_get (D := (dC, dI)) (ci := 12) (v := .ref m20) (C := RX12) (T := TX12) (N := 59) hx hb hts (fun w h => List.mem_cons_of_mem _ (List.mem_append_right _ (List.mem_append_left _ h))) hown hK hP 0 rfl rfl 20 (by decide) (hts (.fieldLink RX12 43 "SagMemoryModel" "ward" "[I") (wl_mem 7 rfl)) (fun _ h9 => h9) rfl dX12_copyValley_44 ?_
  refine lv_bipush (v := 15) hx hb dX12_copyValley_47 (by decide) ?_
  refine lv_iload_n hx hb dX12_copyValley_49 rfl (lv_at hl 1 rfl) ?_
  refine lv_iload_n hx hb dX12_copyValley_50 rfl (lv_at hl 2 rfl) ?_
  have hPc := hP.sub (ws' := [(m20, .inl (k20, 75, .inl (fun _ => 0)))]) [1] rfl
  have hKc := hK.sub (tys' := [(k20, .int)]) [0] rfl
  have hDc := hD.sub (ws' := [(m20, .inl (k20, 75, .inl (fun _ => 0)))]) [1] (by decide) rfl
  have hFc := va_free (wc := [(m20, .inl (k20, 75, .inl (fun _ => 0)))]) hD hS hA [1] rfl
  refine va_callv (va_runS (As := [.ref m20, .int 15, .int 0, .int 1]) (rest := []) ⟨hx, hb, hml, hown, hts⟩ (f_X12_copyRow_ward_01 l dC dI H.size m20 k20) (va_cwS 4 hts (gk_S (wl_mem 1 rfl) (wl_mem 2 rfl) (wl_mem 3 rfl) (fun w h => List.mem_cons_of_mem _ (List.mem_append_right _ (List.mem_append_right _ (List.mem_append_right _ (List.mem_append_right _ (List.mem_append_right _ (List.mem_append_right _ (List.mem_append_left _ h)))))))) wkg_f_X12_copyRow_ward_01) rfl rfl rfl (by decide +kernel) ⟨Nat.le_of_ble_eq_true rfl, Nat.le_of_ble_eq_true rfl⟩) ⟨fun a U g mk q => by obtain ⟨q0, q1, qP, qK, qD⟩ := q; exact ⟨q0, q1, qP, va_K.moved (u := U) (U := U.calling g mk a) (Vm.Alike.refl U.vm) qK, qD⟩, fun U hU hW => ⟨rfl, by rw [hU], by rw [hU]; exact hPc, va_K.moved hW.alike hKc, hDc.weaken (fun _ _ _ _ => trivial)⟩⟩ rfl rfl hl.1 rfl (lv_room (Nat.le_of_ble_eq_true rfl)) dX12_copyValley_51 ⟨Nat.le_of_ble_eq_true rfl, Nat.le_of_ble_eq_true rfl⟩) hS (fun q _ h => hFc q h) hFc (fun u t H1 locs ht hvm hz9 hB hz1 hk1 hS => ?_)
  obtain ⟨hP1, hK1, hD1⟩ := hB
  rw [ht] at hP1
  have hK1 := va_K.moved hvm.symm hK1
  obtain ⟨hP, hD⟩ := va_join (wr := [(h0, .inr (12, [.int 0, .ref m1, .ref m2, .ref m3, .ref m4, .ref m5, .int 0, .int 0, .int 0, .int 0, .int 0, .long 0, .int 0, .int bp, .int 0, .int (-1), .ref m16, .ref m17, .ref m18, .ref m19, .ref m20, .ref m21, .ref m22, .ref m23, .int 0, .int 0, .int 0, .ref m27, .ref m28, .ref m29, .ref m30, .ref m31, .ref m32, .ref m33, .ref m34, .ref m35, .ref m36, .ref m37, .ref m38, .ref m39, .ref m40, .ref m41, .ref m42, .int 0, .int 0, .int 0, .ref m46, .int 0, .int 0, .int 0, .int 0, .int 0, .int 0, .ref m53, .int 0, .int 0, .int 0, .ref m57, .ref m58])), (m21, .inl (k21, 20, .inl (fun _ => 0))), (m22, .inl (k22, 450, .inl (fun _ => 0))), (m16, .inl (k16, 5, .inl (fun _ => 0))), (m17, .inl (k17, 40, .inl (fun _ => 0))), (m18, .inl (k18, 30, .inl (fun _ => 0))), (m19, .inl (k19, 70, .inl (fun _ => 0)))]) (w1 := [(m20, .inl (k20, 75, .inl (fun _ => 0)))]) hP hD [1] [0, 2, 3, 4, 5, 6, 7] rfl rfl (by decide) (by decide) hk1 hFc hP1 hD1
  have hK := (hK.sub (tys' := [(k21, .int), (k22, .int), (k16, .int), (k17, .int), (k18, .int), (k19, .int)]) [1, 2, 3, 4, 5, 6] rfl).app hK1
  generalize H1 = H at hP hS ⊢
  have hK : va_K (dC, dI) vwCl [(k21, .int), (k22, .int), (k16, .int), (k17, .int), (k18, .int), (k19, .int), (k20, .int)] s := hK
  have hP : va_P (dC, dI) vwCl [(h0, .inr (12, [.int 0, .ref m1, .ref m2, .ref m3, .ref m4, .ref m5, .int 0, .int 0, .int 0, .int 0, .int 0, .long 0, .int 0, .int bp, .int 0, .int (-1), .ref m16, .ref m17, .ref m18, .ref m19, .ref m20, .ref m21, .ref m22, .ref m23, .int 0, .int 0, .int 0, .ref m27, .ref m28, .ref m29, .ref m30, .ref m31, .ref m32, .ref m33, .ref m34, .ref m35, .ref m36, .ref m37, .ref m38, .ref m39, .ref m40, .ref m41, .ref m42, .int 0, .int 0, .int 0, .ref m46, .int 0, .int 0, .int 0, .int 0, .int 0, .int 0, .ref m53, .int 0, .int 0, .int 0, .ref m57, .ref m58])), (m21, .inl (k21, 20, .inl (fun _ => 0))), (m22, .inl (k22, 450, .inl (fun _ => 0))), (m16, .inl (k16, 5, .inl (fun _ => 0))), (m17, .inl (k17, 40, .inl (fun _ => 0))), (m18, .inl (k18, 30, .inl (fun _ => 0))), (m19, .inl (k19, 70, .inl (fun _ => 0))), (m20, .inl (k20, 75, .inl (fun _ => 0)))] H := hP
  have hD : va_D A [(h0, .inr (12, [.int 0, .ref m1, .ref m2, .ref m3, .ref m4, .ref m5, .int 0, .int 0, .int 0, .int 0, .int 0, .long 0, .int 0, .int bp, .int 0, .int (-1), .ref m16, .ref m17, .ref m18, .ref m19, .ref m20, .ref m21, .ref m22, .ref m23, .int 0, .int 0, .int 0, .ref m27, .ref m28, .ref m29, .ref m30, .ref m31, .ref m32, .ref m33, .ref m34, .ref m35, .ref m36, .ref m37, .ref m38, .ref m39, .ref m40, .ref m41, .ref m42, .int 0, .int 0, .int 0, .ref m46, .int 0, .int 0, .int 0, .int 0, .int 0, .int 0, .ref m53, .int 0, .int 0, .int 0, .ref m57, .ref m58])), (m21, .inl (k21, 20, .inl (fun _ => 0))), (m22, .inl (k22, 450, .inl (fun _ => 0))), (m16, .inl (k16, 5, .inl (fun _ => 0))), (m17, .inl (k17, 40, .inl (fun _ => 0))), (m18, .inl (k18, 30, .inl (fun _ => 0))), (m19, .inl (k19, 70, .inl (fun _ => 0))), (m20, .inl (k20, 75, .inl (fun _ => 0)))] := hD
  refine W.widen (k := 0) (n := 0) (Nat.le_of_ble_eq_true rfl) (Nat.le_of_ble_eq_true rfl) ?_
  refine lv_aload_n hx hb dX12_copyValley_54 rfl (lv_at hl 0 rfl) ?_
  refine va_get (D := (dC, dI)) (ci := 12) (v := .ref m21) (C := RX12) (T := TX12) (N := 59) hx hb hts (fun w h => List.mem_cons_of_mem _ (List.mem_append_right _ (List.mem_append_left _ h))) hown hK hP 0 rfl rfl 21 (by decide) (hts (.fieldLink RX12 46 "SagMemoryModel" "frostAt" "[I") (wl_mem 8 rfl)) (fun _ h9 => h9) rfl dX12_copyValley_55 ?_
  refine lv_iconst (v := 4) hx hb dX12_copyValley_58 (by decide) ?_
  refine lv_iload_n hx hb dX12_copyValley_59 rfl (lv_at hl 1 rfl) ?_
  refine lv_iload_n hx hb dX12_copyValley_60 rfl (lv_at hl 2 rfl) ?_
  have hPc := hP.sub (ws' := [(m21, .inl (k21, 20, .inl (fun _ => 0)))]) [1] rfl
  have hKc := hK.sub (tys' := [(k21, .int)]) [0] rfl
  have hDc := hD.sub (ws' := [(m21, .inl (k21, 20, .inl (fun _ => 0)))]) [1] (by decide) rfl
  have hFc := va_free (wc := [(m21, .inl (k21, 20, .inl (fun _ => 0)))]) hD hS hA [1] rfl
  refine va_callv (va_runS (As := [.ref m21, .int 4, .int 0, .int 1]) (rest := []) ⟨hx, hb, hml, hown, hts⟩ (f_X12_copyRow_frostAt_01 l dC dI H.size m21 k21) (va_cwS 4 hts (gk_S (wl_mem 1 rfl) (wl_mem 2 rfl) (wl_mem 3 rfl) (fun w h => List.mem_cons_of_mem _ (List.mem_append_right _ (List.mem_append_right _ (List.mem_append_right _ (List.mem_append_right _ (List.mem_append_right _ (List.mem_append_right _ (List.mem_append_right _ (List.mem_append_left _ h))))))))) wkg_f_X12_copyRow_frostAt_01) rfl rfl rfl (by decide +kernel) ⟨Nat.le_of_ble_eq_true rfl, Nat.le_of_ble_eq_true rfl⟩) ⟨fun a U g mk q => by obtain ⟨q0, q1, qP, qK, qD⟩ := q; exact ⟨q0, q1, qP, va_K.moved (u := U) (U := U.calling g mk a) (Vm.Alike.refl U.vm) qK, qD⟩, fun U hU hW => ⟨rfl, by rw [hU], by rw [hU]; exact hPc, va_K.moved hW.alike hKc, hDc.weaken (fun _ _ _ _ => trivial)⟩⟩ rfl rfl hl.1 rfl (lv_room (Nat.le_of_ble_eq_true rfl)) dX12_copyValley_61 ⟨Nat.le_of_ble_eq_true rfl, Nat.le_of_ble_eq_true rfl⟩) hS (fun q _ h => hFc q h) hFc (fun u t H1 locs ht hvm hz11 hB hz1 hk1 hS => ?_)
  obtain ⟨hP1, hK1, hD1⟩ := hB
  rw [ht] at hP1
  have hK1 := va_K.moved hvm.symm hK1
  obtain ⟨hP, hD⟩ := va_join (wr := [(h0, .inr (12, [.int 0, .ref m1, .ref m2, .ref m3, .ref m4, .ref m5, .int 0, .int 0, .int 0, .int 0, .int 0, .long 0, .int 0, .int bp, .int 0, .int (-1), .ref m16, .ref m17, .ref m18, .ref m19, .ref m20, .ref m21, .ref m22, .ref m23, .int 0, .int 0, .int 0, .ref m27, .ref m28, .ref m29, .ref m30, .ref m31, .ref m32, .ref m33, .ref m34, .ref m35, .ref m36, .ref m37, .ref m38, .ref m39, .ref m40, .ref m41, .ref m42, .int 0, .int 0, .int 0, .ref m46, .int 0, .int 0, .int 0, .int 0, .int 0, .int 0, .ref m53, .int 0, .int 0, .int 0, .ref m57, .ref m58])), (m22, .inl (k22, 450, .inl (fun _ => 0))), (m16, .inl (k16, 5, .inl (fun _ => 0))), (m17, .inl (k17, 40, .inl (fun _ => 0))), (m18, .inl (k18, 30, .inl (fun _ => 0))), (m19, .inl (k19, 70, .inl (fun _ => 0))), (m20, .inl (k20, 75, .inl (fun _ => 0)))]) (w1 := [(m21, .inl (k21, 20, .inl (fun _ => 0)))]) hP hD [1] [0, 2, 3, 4, 5, 6, 7] rfl rfl (by decide) (by decide) hk1 hFc hP1 hD1
  have hK := (hK.sub (tys' := [(k22, .int), (k16, .int), (k17, .int), (k18, .int), (k19, .int), (k20, .int)]) [1, 2, 3, 4, 5, 6] rfl).app hK1
  generalize H1 = H at hP hS ⊢
  have hK : va_K (dC, dI) vwCl [(k22, .int), (k16, .int), (k17, .int), (k18, .int), (k19, .int), (k20, .int), (k21, .int)] s := hK
  have hP : va_P (dC, dI) vwCl [(h0, .inr (12, [.int 0, .ref m1, .ref m2, .ref m3, .ref m4, .ref m5, .int 0, .int 0, .int 0, .int 0, .int 0, .long 0, .int 0, .int bp, .int 0, .int (-1), .ref m16, .ref m17, .ref m18, .ref m19, .ref m20, .ref m21, .ref m22, .ref m23, .int 0, .int 0, .int 0, .ref m27, .ref m28, .ref m29, .ref m30, .ref m31, .ref m32, .ref m33, .ref m34, .ref m35, .ref m36, .ref m37, .ref m38, .ref m39, .ref m40, .ref m41, .ref m42, .int 0, .int 0, .int 0, .ref m46, .int 0, .int 0, .int 0, .int 0, .int 0, .int 0, .ref m53, .int 0, .int 0, .int 0, .ref m57, .ref m58])), (m22, .inl (k22, 450, .inl (fun _ => 0))), (m16, .inl (k16, 5, .inl (fun _ => 0))), (m17, .inl (k17, 40, .inl (fun _ => 0))), (m18, .inl (k18, 30, .inl (fun _ => 0))), (m19, .inl (k19, 70, .inl (fun _ => 0))), (m20, .inl (k20, 75, .inl (fun _ => 0))), (m21, .inl (k21, 20, .inl (fun _ => 0)))] H := hP
  have hD : va_D A [(h0, .inr (12, [.int 0, .ref m1, .ref m2, .ref m3, .ref m4, .ref m5, .int 0, .int 0, .int 0, .int 0, .int 0, .long 0, .int 0, .int bp, .int 0, .int (-1), .ref m16, .ref m17, .ref m18, .ref m19, .ref m20, .ref m21, .ref m22, .ref m23, .int 0, .int 0, .int 0, .ref m27, .ref m28, .ref m29, .ref m30, .ref m31, .ref m32, .ref m33, .ref m34, .ref m35, .ref m36, .ref m37, .ref m38, .ref m39, .ref m40, .ref m41, .ref m42, .int 0, .int 0, .int 0, .ref m46, .int 0, .int 0, .int 0, .int 0, .int 0, .int 0, .ref m53, .int 0, .int 0, .int 0, .ref m57, .ref m58])), (m22, .inl (k22, 450, .inl (fun _ => 0))), (m16, .inl (k16, 5, .inl (fun _ => 0))), (m17, .inl (k17, 40, .inl (fun _ => 0))), (m18, .inl (k18, 30, .inl (fun _ => 0))), (m19, .inl (k19, 70, .inl (fun _ => 0))), (m20, .inl (k20, 75, .inl (fun _ => 0))), (m21, .inl (k21, 20, .inl (fun _ => 0)))] := hD
  refine W.widen (k := 0) (n := 0) (Nat.le_of_ble_eq_true rfl) (Nat.le_of_ble_eq_true rfl) ?_
  refine lv_aload_n hx hb dX12_copyValley_64 rfl (lv_at hl 0 rfl) ?_
  refine va_get (D := (dC, dI)) (ci := 12) (v := .ref m22) (C := RX12) (T := TX12) (N := 59) hx hb hts (fun w h => List.mem_cons_of_mem _ (List.mem_append_right _ (List.mem_append_left _ h))) hown hK hP 0 rfl rfl 22 (by decide) (hts (.fieldLink RX12 49 "SagMemoryModel" "act" "[I") (wl_mem 9 rfl)) (fun _ h9 => h9) rfl dX12_copyValley_65 ?_
  refine lv_bipush (v := 90) hx hb dX12_copyValley_68 (by decide) ?_
  refine lv_iload_n hx hb dX12_copyValley_70 rfl (lv_at hl 1 rfl) ?_
  refine lv_iload_n hx hb dX12_copyValley_71 rfl (lv_at hl 2 rfl) ?_
  have hPc := hP.sub (ws' := [(m22, .inl (k22, 450, .inl (fun _ => 0)))]) [1] rfl
  have hKc := hK.sub (tys' := [(k22, .int)]) [0] rfl
  have hDc := hD.sub (ws' := [(m22, .inl (k22, 450, .inl (fun _ => 0)))]) [1] (by decide) rfl
  have hFc := va_free (wc := [(m22, .inl (k22, 450, .inl (fun _ => 0)))]) hD hS hA [1] rfl
  refine va_callv (va_runS (As := [.ref m22, .int 90, .int 0, .int 1]) (rest := []) ⟨hx, hb, hml, hown, hts⟩ (f_X12_copyRow_act_01 l dC dI H.size m22 k22) (va_cwS 4 hts (gk_S (wl_mem 1 rfl) (wl_mem 2 rfl) (wl_mem 3 rfl) (fun w h => List.mem_cons_of_mem _ (List.mem_append_right _ (List.mem_append_right _ (List.mem_append_right _ (List.mem_append_right _ (List.mem_append_right _ (List.mem_append_right _ (List.mem_append_right _ (List.mem_append_right _ (List.mem_append_left _ h)))))))))) wkg_f_X12_copyRow_act_01) rfl rfl rfl (by decide +kernel) ⟨Nat.le_of_ble_eq_true rfl, Nat.le_of_ble_eq_true rfl⟩) ⟨fun a U g mk q => by obtain ⟨q0, q1, qP, qK, qD⟩ := q; exact ⟨q0, q1, qP, va_K.moved (u := U) (U := U.calling g mk a) (Vm.Alike.refl U.vm) qK, qD⟩, fun U hU hW => ⟨rfl, by rw [hU], by rw [hU]; exact hPc, va_K.moved hW.alike hKc, hDc.weaken (fun _ _ _ _ => trivial)⟩⟩ rfl rfl hl.1 rfl (lv_room (Nat.le_of_ble_eq_true rfl)) dX12_copyValley_72 ⟨Nat.le_of_ble_eq_true rfl, Nat.le_of_ble_eq_true rfl⟩) hS (fun q _ h => hFc q h) hFc (fun u t H1 locs ht hvm hz13 hB hz1 hk1 hS => ?_)
  obtain ⟨hP1, hK1, hD1⟩ := hB
  rw [ht] at hP1
  have hK1 := va_K.moved hvm.symm hK1
  obtain ⟨hP, hD⟩ := va_join (wr := [(h0, .inr (12, [.int 0, .ref m1, .ref m2, .ref m3, .ref m4, .ref m5, .int 0, .int 0, .int 0, .int 0, .int 0, .long 0, .int 0, .int bp, .int 0, .int (-1), .ref m16, .ref m17, .ref m18, .ref m19, .ref m20, .ref m21, .ref m22, .ref m23, .int 0, .int 0, .int 0, .ref m27, .ref m28, .ref m29, .ref m30, .ref m31, .ref m32, .ref m33, .ref m34, .ref m35, .ref m36, .ref m37, .ref m38, .ref m39, .ref m40, .ref m41, .ref m42, .int 0, .int 0, .int 0, .ref m46, .int 0, .int 0, .int 0, .int 0, .int 0, .int 0, .ref m53, .int 0, .int 0, .int 0, .ref m57, .ref m58])), (m16, .inl (k16, 5, .inl (fun _ => 0))), (m17, .inl (k17, 40, .inl (fun _ => 0))), (m18, .inl (k18, 30, .inl (fun _ => 0))), (m19, .inl (k19, 70, .inl (fun _ => 0))), (m20, .inl (k20, 75, .inl (fun _ => 0))), (m21, .inl (k21, 20, .inl (fun _ => 0)))]) (w1 := [(m22, .inl (k22, 450, .inl (fun _ => 0)))]) hP hD [1] [0, 2, 3, 4, 5, 6, 7] rfl rfl (by decide) (by decide) hk1 hFc hP1 hD1
  have hK := (hK.sub (tys' := [(k16, .int), (k17, .int), (k18, .int), (k19, .int), (k20, .int), (k21, .int)]) [1, 2, 3, 4, 5, 6] rfl).app hK1
  generalize H1 = H at hP hS ⊢
  have hK : va_K (dC, dI) vwCl [(k16, .int), (k17, .int), (k18, .int), (k19, .int), (k20, .int), (k21, .int), (k22, .int)] s := hK
  have hP : va_P (dC, dI) vwCl [(h0, .inr (12, [.int 0, .ref m1, .ref m2, .ref m3, .ref m4, .ref m5, .int 0, .int 0, .int 0, .int 0, .int 0, .long 0, .int 0, .int bp, .int 0, .int (-1), .ref m16, .ref m17, .ref m18, .ref m19, .ref m20, .ref m21, .ref m22, .ref m23, .int 0, .int 0, .int 0, .ref m27, .ref m28, .ref m29, .ref m30, .ref m31, .ref m32, .ref m33, .ref m34, .ref m35, .ref m36, .ref m37, .ref m38, .ref m39, .ref m40, .ref m41, .ref m42, .int 0, .int 0, .int 0, .ref m46, .int 0, .int 0, .int 0, .int 0, .int 0, .int 0, .ref m53, .int 0, .int 0, .int 0, .ref m57, .ref m58])), (m16, .inl (k16, 5, .inl (fun _ => 0))), (m17, .inl (k17, 40, .inl (fun _ => 0))), (m18, .inl (k18, 30, .inl (fun _ => 0))), (m19, .inl (k19, 70, .inl (fun _ => 0))), (m20, .inl (k20, 75, .inl (fun _ => 0))), (m21, .inl (k21, 20, .inl (fun _ => 0))), (m22, .inl (k22, 450, .inl (fun _ => 0)))] H := hP
  have hD : va_D A [(h0, .inr (12, [.int 0, .ref m1, .ref m2, .ref m3, .ref m4, .ref m5, .int 0, .int 0, .int 0, .int 0, .int 0, .long 0, .int 0, .int bp, .int 0, .int (-1), .ref m16, .ref m17, .ref m18, .ref m19, .ref m20, .ref m21, .ref m22, .ref m23, .int 0, .int 0, .int 0, .ref m27, .ref m28, .ref m29, .ref m30, .ref m31, .ref m32, .ref m33, .ref m34, .ref m35, .ref m36, .ref m37, .ref m38, .ref m39, .ref m40, .ref m41, .ref m42, .int 0, .int 0, .int 0, .ref m46, .int 0, .int 0, .int 0, .int 0, .int 0, .int 0, .ref m53, .int 0, .int 0, .int 0, .ref m57, .ref m58])), (m16, .inl (k16, 5, .inl (fun _ => 0))), (m17, .inl (k17, 40, .inl (fun _ => 0))), (m18, .inl (k18, 30, .inl (fun _ => 0))), (m19, .inl (k19, 70, .inl (fun _ => 0))), (m20, .inl (k20, 75, .inl (fun _ => 0))), (m21, .inl (k21, 20, .inl (fun _ => 0))), (m22, .inl (k22, 450, .inl (fun _ => 0)))] := hD
  refine W.widen (k := 0) (n := 0) (Nat.le_of_ble_eq_true rfl) (Nat.le_of_ble_eq_true rfl) ?_
  have hP9 := hP.sub (ws' := [(h0, .inr (12, [.int 0, .ref m1, .ref m2, .ref m3, .ref m4, .ref m5, .int 0, .int 0, .int 0, .int 0, .int 0, .long 0, .int 0, .int bp, .int 0, .int (-1), .ref m16, .ref m17, .ref m18, .ref m19, .ref m20, .ref m21, .ref m22, .ref m23, .int 0, .int 0, .int 0, .ref m27, .ref m28, .ref m29, .ref m30, .ref m31, .ref m32, .ref m33, .ref m34, .ref m35, .ref m36, .ref m37, .ref m38, .ref m39, .ref m40, .ref m41, .ref m42, .int 0, .int 0, .int 0, .ref m46, .int 0, .int 0, .int 0, .int 0, .int 0, .int 0, .ref m53, .int 0, .int 0, .int 0, .ref m57, .ref m58])), (m16, .inl (k16, 5, .inl (fun _ => 0))), (m17, .inl (k17, 40, .inl (fun _ => 0))), (m18, .inl (k18, 30, .inl (fun _ => 0))), (m19, .inl (k19, 70, .inl (fun _ => 0))), (m20, .inl (k20, 75, .inl (fun _ => 0))), (m21, .inl (k21, 20, .inl (fun _ => 0))), (m22, .inl (k22, 450, .inl (fun _ => 0)))]) [0, 1, 2, 3, 4, 5, 6, 7] rfl
  have hD9 := hD.sub (ws' := [(h0, .inr (12, [.int 0, .ref m1, .ref m2, .ref m3, .ref m4, .ref m5, .int 0, .int 0, .int 0, .int 0, .int 0, .long 0, .int 0, .int bp, .int 0, .int (-1), .ref m16, .ref m17, .ref m18, .ref m19, .ref m20, .ref m21, .ref m22, .ref m23, .int 0, .int 0, .int 0, .ref m27, .ref m28, .ref m29, .ref m30, .ref m31, .ref m32, .ref m33, .ref m34, .ref m35, .ref m36, .ref m37, .ref m38, .ref m39, .ref m40, .ref m41, .ref m42, .int 0, .int 0, .int 0, .ref m46, .int 0, .int 0, .int 0, .int 0, .int 0, .int 0, .ref m53, .int 0, .int 0, .int 0, .ref m57, .ref m58])), (m16, .inl (k16, 5, .inl (fun _ => 0))), (m17, .inl (k17, 40, .inl (fun _ => 0))), (m18, .inl (k18, 30, .inl (fun _ => 0))), (m19, .inl (k19, 70, .inl (fun _ => 0))), (m20, .inl (k20, 75, .inl (fun _ => 0))), (m21, .inl (k21, 20, .inl (fun _ => 0))), (m22, .inl (k22, 450, .inl (fun _ => 0)))]) [0, 1, 2, 3, 4, 5, 6, 7] (by decide) rfl
  have hK9 := hK.sub (tys' := [(k16, .int), (k17, .int), (k18, .int), (k19, .int), (k20, .int), (k21, .int), (k22, .int)]) [0, 1, 2, 3, 4, 5, 6] rfl
  exact W.vret hx hb hr (fun t ht hW => ⟨⟨(), rfl, trivial, by rw [ht]; exact hP9, va_K.moved hW.alike hK9, hD9⟩, hS.F ht⟩) hS.2.2 dX12_copyValley_75
def wk_f_X12_copyValley_02 : List Cond := .code yX12_copyValley cX12_copyValley 3 none :: ([.fieldLink RX12 31 "SagMemoryModel" "lines" "[I", .methodLink RX12 279 yX12_copyRow, .static yX12_copyRow, .initialized RX12, .fieldLink RX12 34 "SagMemoryModel" "has" "[I", .fieldLink RX12 37 "SagMemoryModel" "bridge" "[I", .fieldLink RX12 40 "SagMemoryModel" "cart" "[I", .fieldLink RX12 43 "SagMemoryModel" "ward" "[I", .fieldLink RX12 46 "SagMemoryModel" "frostAt" "[I", .fieldLink RX12 49 "SagMemoryModel" "act" "[I"] ++ (wsX120 ++ (wk_f_X12_copyRow_lines_02 ++ (wk_f_X12_copyRow_has_02 ++ (wk_f_X12_copyRow_bridge_02 ++ (wk_f_X12_copyRow_cart_02 ++ (wk_f_X12_copyRow_ward_02 ++ (wk_f_X12_copyRow_frostAt_02 ++ (wk_f_X12_copyRow_act_02 ++ [])))))))))
theorem wkg_f_X12_copyValley_02 : wk_f_X12_copyValley_02.all goodWord = true := by decide +kernel
set_option maxHeartbeats 4000000 in
set_option maxRecDepth 100000 in
theorem f_X12_copyValley_02 (l : Launch) (dC : Nat → ClassId) (dI : Nat → Nat → Nat) (sz : Nat) (h0 : Nat) (m1 : Nat) (m2 : Nat) (m3 : Nat) (m4 : Nat) (m5 : Nat) (m16 : Nat) (m17 : Nat) (m18 : Nat) (m19 : Nat) (m20 : Nat) (m21 : Nat) (m22 : Nat) (m23 : Nat) (m27 : Nat) (m28 : Nat) (m29 : Nat) (m30 : Nat) (m31 : Nat) (m32 : Nat) (m33 : Nat) (m34 : Nat) (m35 : Nat) (m36 : Nat) (m37 : Nat) (m38 : Nat) (m39 : Nat) (m40 : Nat) (m41 : Nat) (m42 : Nat) (m46 : Nat) (m53 : Nat) (m57 : Nat) (m58 : Nat) (k16 : ClassId) (k17 : ClassId) (k18 : ClassId) (k19 : ClassId) (k20 : ClassId) (k21 : ClassId) (k22 : ClassId) (bp : Int32) : Met l yX12_copyValley wk_f_X12_copyValley_02 ({ frames := 1, cells := 0, slots := 0, locals := 24 }) (va_Pc [.ref h0, .int 0, .int 2] (fun U => U.heap.size = sz ∧ va_P (dC, dI) vwCl [(h0, .inr (12, [.int 0, .ref m1, .ref m2, .ref m3, .ref m4, .ref m5, .int 0, .int 0, .int 0, .int 0, .int 0, .long 0, .int 0, .int bp, .int 0, .int (-1), .ref m16, .ref m17, .ref m18, .ref m19, .ref m20, .ref m21, .ref m22, .ref m23, .int 0, .int 0, .int 0, .ref m27, .ref m28, .ref m29, .ref m30, .ref m31, .ref m32, .ref m33, .ref m34, .ref m35, .ref m36, .ref m37, .ref m38, .ref m39, .ref m40, .ref m41, .ref m42, .int 0, .int 0, .int 0, .ref m46, .int 0, .int 0, .int 0, .int 0, .int 0, .int 0, .ref m53, .int 0, .int 0, .int 0, .ref m57, .ref m58])), (m16, .inl (k16, 5, .inl (fun _ => 0))), (m17, .inl (k17, 40, .inl (fun _ => 0))), (m18, .inl (k18, 30, .inl (fun _ => 0))), (m19, .inl (k19, 70, .inl (fun _ => 0))), (m20, .inl (k20, 75, .inl (fun _ => 0))), (m21, .inl (k21, 20, .inl (fun _ => 0))), (m22, .inl (k22, 450, .inl (fun _ => 0)))] U.heap ∧ va_K (dC, dI) vwCl [(k16, .int), (k17, .int), (k18, .int), (k19, .int), (k20, .int), (k21, .int), (k22, .int)] U ∧ va_D (fun _ => True) [(h0, .inr (12, [.int 0, .ref m1, .ref m2, .ref m3, .ref m4, .ref m5, .int 0, .int 0, .int 0, .int 0, .int 0, .long 0, .int 0, .int bp, .int 0, .int (-1), .ref m16, .ref m17, .ref m18, .ref m19, .ref m20, .ref m21, .ref m22, .ref m23, .int 0, .int 0, .int 0, .ref m27, .ref m28, .ref m29, .ref m30, .ref m31, .ref m32, .ref m33, .ref m34, .ref m35, .ref m36, .ref m37, .ref m38, .ref m39, .ref m40, .ref m41, .ref m42, .int 0, .int 0, .int 0, .ref m46, .int 0, .int 0, .int 0, .int 0, .int 0, .int 0, .ref m53, .int 0, .int 0, .int 0, .ref m57, .ref m58])), (m16, .inl (k16, 5, .inl (fun _ => 0))), (m17, .inl (k17, 40, .inl (fun _ => 0))), (m18, .inl (k18, 30, .inl (fun _ => 0))), (m19, .inl (k19, 70, .inl (fun _ => 0))), (m20, .inl (k20, 75, .inl (fun _ => 0))), (m21, .inl (k21, 20, .inl (fun _ => 0))), (m22, .inl (k22, 450, .inl (fun _ => 0)))])) (va_Qv (fun _ : Unit => True) (fun (_ : Unit) (t : State) => va_P (dC, dI) vwCl [(h0, .inr (12, [.int 0, .ref m1, .ref m2, .ref m3, .ref m4, .ref m5, .int 0, .int 0, .int 0, .int 0, .int 0, .long 0, .int 0, .int bp, .int 0, .int (-1), .ref m16, .ref m17, .ref m18, .ref m19, .ref m20, .ref m21, .ref m22, .ref m23, .int 0, .int 0, .int 0, .ref m27, .ref m28, .ref m29, .ref m30, .ref m31, .ref m32, .ref m33, .ref m34, .ref m35, .ref m36, .ref m37, .ref m38, .ref m39, .ref m40, .ref m41, .ref m42, .int 0, .int 0, .int 0, .ref m46, .int 0, .int 0, .int 0, .int 0, .int 0, .int 0, .ref m53, .int 0, .int 0, .int 0, .ref m57, .ref m58])), (m16, .inl (k16, 5, .inl (fun _ => 0))), (m17, .inl (k17, 40, .inl (fun _ => 0))), (m18, .inl (k18, 30, .inl (fun _ => 0))), (m19, .inl (k19, 70, .inl (fun _ => 0))), (m20, .inl (k20, 75, .inl (fun _ => 0))), (m21, .inl (k21, 20, .inl (fun _ => 0))), (m22, .inl (k22, 450, .inl (fun _ => 0)))] t.heap ∧ va_K (dC, dI) vwCl [(k16, .int), (k17, .int), (k18, .int), (k19, .int), (k20, .int), (k21, .int), (k22, .int)] t ∧ va_D (va_A [(h0, .inr (12, [.int 0, .ref m1, .ref m2, .ref m3, .ref m4, .ref m5, .int 0, .int 0, .int 0, .int 0, .int 0, .long 0, .int 0, .int bp, .int 0, .int (-1), .ref m16, .ref m17, .ref m18, .ref m19, .ref m20, .ref m21, .ref m22, .ref m23, .int 0, .int 0, .int 0, .ref m27, .ref m28, .ref m29, .ref m30, .ref m31, .ref m32, .ref m33, .ref m34, .ref m35, .ref m36, .ref m37, .ref m38, .ref m39, .ref m40, .ref m41, .ref m42, .int 0, .int 0, .int 0, .ref m46, .int 0, .int 0, .int 0, .int 0, .int 0, .int 0, .ref m53, .int 0, .int 0, .int 0, .ref m57, .ref m58])), (m16, .inl (k16, 5, .inl (fun _ => 0))), (m17, .inl (k17, 40, .inl (fun _ => 0))), (m18, .inl (k18, 30, .inl (fun _ => 0))), (m19, .inl (k19, 70, .inl (fun _ => 0))), (m20, .inl (k20, 75, .inl (fun _ => 0))), (m21, .inl (k21, 20, .inl (fun _ => 0))), (m22, .inl (k22, 450, .inl (fun _ => 0)))] sz) [(h0, .inr (12, [.int 0, .ref m1, .ref m2, .ref m3, .ref m4, .ref m5, .int 0, .int 0, .int 0, .int 0, .int 0, .long 0, .int 0, .int bp, .int 0, .int (-1), .ref m16, .ref m17, .ref m18, .ref m19, .ref m20, .ref m21, .ref m22, .ref m23, .int 0, .int 0, .int 0, .ref m27, .ref m28, .ref m29, .ref m30, .ref m31, .ref m32, .ref m33, .ref m34, .ref m35, .ref m36, .ref m37, .ref m38, .ref m39, .ref m40, .ref m41, .ref m42, .int 0, .int 0, .int 0, .ref m46, .int 0, .int 0, .int 0, .int 0, .int 0, .int 0, .ref m53, .int 0, .int 0, .int 0, .ref m57, .ref m58])), (m16, .inl (k16, 5, .inl (fun _ => 0))), (m17, .inl (k17, 40, .inl (fun _ => 0))), (m18, .inl (k18, 30, .inl (fun _ => 0))), (m19, .inl (k19, 70, .inl (fun _ => 0))), (m20, .inl (k20, 75, .inl (fun _ => 0))), (m21, .inl (k21, 20, .inl (fun _ => 0))), (m22, .inl (k22, 450, .inl (fun _ => 0)))]) (va_A [(h0, .inr (12, [.int 0, .ref m1, .ref m2, .ref m3, .ref m4, .ref m5, .int 0, .int 0, .int 0, .int 0, .int 0, .long 0, .int 0, .int bp, .int 0, .int (-1), .ref m16, .ref m17, .ref m18, .ref m19, .ref m20, .ref m21, .ref m22, .ref m23, .int 0, .int 0, .int 0, .ref m27, .ref m28, .ref m29, .ref m30, .ref m31, .ref m32, .ref m33, .ref m34, .ref m35, .ref m36, .ref m37, .ref m38, .ref m39, .ref m40, .ref m41, .ref m42, .int 0, .int 0, .int 0, .ref m46, .int 0, .int 0, .int 0, .int 0, .int 0, .int 0, .ref m53, .int 0, .int 0, .int 0, .ref m57, .ref m58])), (m16, .inl (k16, 5, .inl (fun _ => 0))), (m17, .inl (k17, 40, .inl (fun _ => 0))), (m18, .inl (k18, 30, .inl (fun _ => 0))), (m19, .inl (k19, 70, .inl (fun _ => 0))), (m20, .inl (k20, 75, .inl (fun _ => 0))), (m21, .inl (k21, 20, .inl (fun _ => 0))), (m22, .inl (k22, 450, .inl (fun _ => 0)))] sz)) 0 0 (va_A [(h0, .inr (12, [.int 0, .ref m1, .ref m2, .ref m3, .ref m4, .ref m5, .int 0, .int 0, .int 0, .int 0, .int 0, .long 0, .int 0, .int bp, .int 0, .int (-1), .ref m16, .ref m17, .ref m18, .ref m19, .ref m20, .ref m21, .ref m22, .ref m23, .int 0, .int 0, .int 0, .ref m27, .ref m28, .ref m29, .ref m30, .ref m31, .ref m32, .ref m33, .ref m34, .ref m35, .ref m36, .ref m37, .ref m38, .ref m39, .ref m40, .ref m41, .ref m42, .int 0, .int 0, .int 0, .ref m46, .int 0, .int 0, .int 0, .int 0, .int 0, .int 0, .ref m53, .int 0, .int 0, .int 0, .ref m57, .ref m58])), (m16, .inl (k16, 5, .inl (fun _ => 0))), (m17, .inl (k17, 40, .inl (fun _ => 0))), (m18, .inl (k18, 30, .inl (fun _ => 0))), (m19, .inl (k19, 70, .inl (fun _ => 0))), (m20, .inl (k20, 75, .inl (fun _ => 0))), (m21, .inl (k21, 20, .inl (fun _ => 0))), (m22, .inl (k22, 450, .inl (fun _ => 0)))] sz) := by
  refine Met.ofW (cc := cX12_copyValley) (maxL := 3) (ret := none) (by decide) rfl ?_
  intro p e s m args below meth c s₁ B hml hv
  obtain ⟨rfl, hsz, hP, hK, hD0⟩ := hv
  have hx := B.exec
  have hb := B.bytes
  have hr := B.returns
  have hts := atoms_spec (ws := wk_f_X12_copyValley_02) B.pre
  have hown : s.vm.findClass RX12 = some m.cls := findClass_of_methodNamed B.named
  have hlocks := B.notSynchronized
  subst hsz
  have hD := hD0.self (sz := s.heap.size)
  generalize hAe : va_A [(h0, .inr (12, [.int 0, .ref m1, .ref m2, .ref m3, .ref m4, .ref m5, .int 0, .int 0, .int 0, .int 0, .int 0, .long 0, .int 0, .int bp, .int 0, .int (-1), .ref m16, .ref m17, .ref m18, .ref m19, .ref m20, .ref m21, .ref m22, .ref m23, .int 0, .int 0, .int 0, .ref m27, .ref m28, .ref m29, .ref m30, .ref m31, .ref m32, .ref m33, .ref m34, .ref m35, .ref m36, .ref m37, .ref m38, .ref m39, .ref m40, .ref m41, .ref m42, .int 0, .int 0, .int 0, .ref m46, .int 0, .int 0, .int 0, .int 0, .int 0, .int 0, .ref m53, .int 0, .int 0, .int 0, .ref m57, .ref m58])), (m16, .inl (k16, 5, .inl (fun _ => 0))), (m17, .inl (k17, 40, .inl (fun _ => 0))), (m18, .inl (k18, 30, .inl (fun _ => 0))), (m19, .inl (k19, 70, .inl (fun _ => 0))), (m20, .inl (k20, 75, .inl (fun _ => 0))), (m21, .inl (k21, 20, .inl (fun _ => 0))), (m22, .inl (k22, 450, .inl (fun _ => 0)))] s.heap.size = A at hD ⊢
  have hA : ∀ q : Nat, s.heap.size ≤ q → A q := fun q h => by rw [← hAe]; exact Or.inr h
  have hS : va_S A s.heap s.heap [] := va_S.rf
  have hP : va_P (dC, dI) vwCl [(h0, .inr (12, [.int 0, .ref m1, .ref m2, .ref m3, .ref m4, .ref m5, .int 0, .int 0, .int 0, .int 0, .int 0, .long 0, .int 0, .int bp, .int 0, .int (-1), .ref m16, .ref m17, .ref m18, .ref m19, .ref m20, .ref m21, .ref m22, .ref m23, .int 0, .int 0, .int 0, .ref m27, .ref m28, .ref m29, .ref m30, .ref m31, .ref m32, .ref m33, .ref m34, .ref m35, .ref m36, .ref m37, .ref m38, .ref m39, .ref m40, .ref m41, .ref m42, .int 0, .int 0, .int 0, .ref m46, .int 0, .int 0, .int 0, .int 0, .int 0, .int 0, .ref m53, .int 0, .int 0, .int 0, .ref m57, .ref m58])), (m16, .inl (k16, 5, .inl (fun _ => 0))), (m17, .inl (k17, 40, .inl (fun _ => 0))), (m18, .inl (k18, 30, .inl (fun _ => 0))), (m19, .inl (k19, 70, .inl (fun _ => 0))), (m20, .inl (k20, 75, .inl (fun _ => 0))), (m21, .inl (k21, 20, .inl (fun _ => 0))), (m22, .inl (k22, 450, .inl (fun _ => 0)))] s.heap := hP
  have hl := lv_entry ([.ref h0, .int 0, .int 2]) (n := 3) (Nat.le_of_ble_eq_true rfl)
  rw [lg_entry_eq]
  generalize (lg_sl ([.ref h0, .int 0, .int 2]) ++ List.replicate (3 - (lg_sl ([.ref h0, .int 0, .int 2])).length) Slot.unset).toArray = ls at hl ⊢
  have hl : lv_has ls 3 [(0, .ref h0), (1, .int 0), (2, .int 2)] := hl
  refine lv_aload_n hx hb dX12_copyValley_0 rfl (lv_at hl 0 rfl) ?_
  refine va_get (D := (dC, dI)) (ci := 12) (v := .ref m16) (C := RX12) (T := TX12) (N := 59) hx hb hts (fun w h => List.mem_cons_of_mem _ (List.mem_append_right _ (List.mem_append_left _ h))) hown hK hP 0 rfl rfl 16 (by decide) (hts (.fieldLink RX12 31 "SagMemoryModel" "lines" "[I") (wl_mem 0 rfl)) (fun _ h9 => h9) rfl dX12_copyValley_1 ?_
  refine lv_iconst (v := 1) hx hb dX12_copyValley_4 (by decide) ?_
  refine lv_iload_n hx hb dX12_copyValley_5 rfl (lv_at hl 1 rfl) ?_
  refine lv_iload_n hx hb dX12_copyValley_6 rfl (lv_at hl 2 rfl) ?_
  have hPc := hP.sub (ws' := [(m16, .inl (k16, 5, .inl (fun _ => 0)))]) [1] rfl
  have hKc := hK.sub (tys' := [(k16, .int)]) [0] rfl
  have hDc := hD.sub (ws' := [(m16, .inl (k16, 5, .inl (fun _ => 0)))]) [1] (by decide) rfl
  have hFc := va_free (wc := [(m16, .inl (k16, 5, .inl (fun _ => 0)))]) hD hS hA [1] rfl
  refine va_callv (va_runS (As := [.ref m16, .int 1, .int 0, .int 2]) (rest := []) ⟨hx, hb, hml, hown, hts⟩ (f_X12_copyRow_lines_02 l dC dI s.heap.size m16 k16) (va_cwS 4 hts (gk_S (wl_mem 1 rfl) (wl_mem 2 rfl) (wl_mem 3 rfl) (fun w h => List.mem_cons_of_mem _ (List.mem_append_right _ (List.mem_append_right _ (List.mem_append_left _ h)))) wkg_f_X12_copyRow_lines_02) rfl rfl rfl (by decide +kernel) ⟨Nat.le_of_ble_eq_true rfl, Nat.le_of_ble_eq_true rfl⟩) ⟨fun a U g mk q => by obtain ⟨q0, q1, qP, qK, qD⟩ := q; exact ⟨q0, q1, qP, va_K.moved (u := U) (U := U.calling g mk a) (Vm.Alike.refl U.vm) qK, qD⟩, fun U hU hW => ⟨rfl, by rw [hU], by rw [hU]; exact hPc, va_K.moved hW.alike hKc, hDc.weaken (fun _ _ _ _ => trivial)⟩⟩ rfl rfl hl.1 rfl (lv_room (Nat.le_of_ble_eq_true rfl)) dX12_copyValley_7 ⟨Nat.le_of_ble_eq_true rfl, Nat.le_of_ble_eq_true rfl⟩) hS (fun q _ h => hFc q h) hFc (fun u t H1 locs ht hvm hz1 hB hz1 hk1 hS => ?_)
  obtain ⟨hP1, hK1, hD1⟩ := hB
  rw [ht] at hP1
  have hK1 := va_K.moved hvm.symm hK1
  obtain ⟨hP, hD⟩ := va_join (wr := [(h0, .inr (12, [.int 0, .ref m1, .ref m2, .ref m3, .ref m4, .ref m5, .int 0, .int 0, .int 0, .int 0, .int 0, .long 0, .int 0, .int bp, .int 0, .int (-1), .ref m16, .ref m17, .ref m18, .ref m19, .ref m20, .ref m21, .ref m22, .ref m23, .int 0, .int 0, .int 0, .ref m27, .ref m28, .ref m29, .ref m30, .ref m31, .ref m32, .ref m33, .ref m34, .ref m35, .ref m36, .ref m37, .ref m38, .ref m39, .ref m40, .ref m41, .ref m42, .int 0, .int 0, .int 0, .ref m46, .int 0, .int 0, .int 0, .int 0, .int 0, .int 0, .ref m53, .int 0, .int 0, .int 0, .ref m57, .ref m58])), (m17, .inl (k17, 40, .inl (fun _ => 0))), (m18, .inl (k18, 30, .inl (fun _ => 0))), (m19, .inl (k19, 70, .inl (fun _ => 0))), (m20, .inl (k20, 75, .inl (fun _ => 0))), (m21, .inl (k21, 20, .inl (fun _ => 0))), (m22, .inl (k22, 450, .inl (fun _ => 0)))]) (w1 := [(m16, .inl (k16, 5, .inl (fun _ => 0)))]) hP hD [1] [0, 2, 3, 4, 5, 6, 7] rfl rfl (by decide) (by decide) hk1 hFc hP1 hD1
  have hK := (hK.sub (tys' := [(k17, .int), (k18, .int), (k19, .int), (k20, .int), (k21, .int), (k22, .int)]) [1, 2, 3, 4, 5, 6] rfl).app hK1
  generalize H1 = H at hP hS ⊢
  have hK : va_K (dC, dI) vwCl [(k17, .int), (k18, .int), (k19, .int), (k20, .int), (k21, .int), (k22, .int), (k16, .int)] s := hK
  have hP : va_P (dC, dI) vwCl [(h0, .inr (12, [.int 0, .ref m1, .ref m2, .ref m3, .ref m4, .ref m5, .int 0, .int 0, .int 0, .int 0, .int 0, .long 0, .int 0, .int bp, .int 0, .int (-1), .ref m16, .ref m17, .ref m18, .ref m19, .ref m20, .ref m21, .ref m22, .ref m23, .int 0, .int 0, .int 0, .ref m27, .ref m28, .ref m29, .ref m30, .ref m31, .ref m32, .ref m33, .ref m34, .ref m35, .ref m36, .ref m37, .ref m38, .ref m39, .ref m40, .ref m41, .ref m42, .int 0, .int 0, .int 0, .ref m46, .int 0, .int 0, .int 0, .int 0, .int 0, .int 0, .ref m53, .int 0, .int 0, .int 0, .ref m57, .ref m58])), (m17, .inl (k17, 40, .inl (fun _ => 0))), (m18, .inl (k18, 30, .inl (fun _ => 0))), (m19, .inl (k19, 70, .inl (fun _ => 0))), (m20, .inl (k20, 75, .inl (fun _ => 0))), (m21, .inl (k21, 20, .inl (fun _ => 0))), (m22, .inl (k22, 450, .inl (fun _ => 0))), (m16, .inl (k16, 5, .inl (fun _ => 0)))] H := hP
  have hD : va_D A [(h0, .inr (12, [.int 0, .ref m1, .ref m2, .ref m3, .ref m4, .ref m5, .int 0, .int 0, .int 0, .int 0, .int 0, .long 0, .int 0, .int bp, .int 0, .int (-1), .ref m16, .ref m17, .ref m18, .ref m19, .ref m20, .ref m21, .ref m22, .ref m23, .int 0, .int 0, .int 0, .ref m27, .ref m28, .ref m29, .ref m30, .ref m31, .ref m32, .ref m33, .ref m34, .ref m35, .ref m36, .ref m37, .ref m38, .ref m39, .ref m40, .ref m41, .ref m42, .int 0, .int 0, .int 0, .ref m46, .int 0, .int 0, .int 0, .int 0, .int 0, .int 0, .ref m53, .int 0, .int 0, .int 0, .ref m57, .ref m58])), (m17, .inl (k17, 40, .inl (fun _ => 0))), (m18, .inl (k18, 30, .inl (fun _ => 0))), (m19, .inl (k19, 70, .inl (fun _ => 0))), (m20, .inl (k20, 75, .inl (fun _ => 0))), (m21, .inl (k21, 20, .inl (fun _ => 0))), (m22, .inl (k22, 450, .inl (fun _ => 0))), (m16, .inl (k16, 5, .inl (fun _ => 0)))] := hD
  refine W.widen (k := 0) (n := 0) (Nat.le_of_ble_eq_true rfl) (Nat.le_of_ble_eq_true rfl) ?_
  refine lv_aload_n hx hb dX12_copyValley_10 rfl (lv_at hl 0 rfl) ?_
  refine va_get (D := (dC, dI)) (ci := 12) (v := .ref m17) (C := RX12) (T := TX12) (N := 59) hx hb hts (fun w h => List.mem_cons_of_mem _ (List.mem_append_right _ (List.mem_append_left _ h))) hown hK hP 0 rfl rfl 17 (by decide) (hts (.fieldLink RX12 34 "SagMemoryModel" "has" "[I") (wl_mem 4 rfl)) (fun _ h9 => h9) rfl dX12_copyValley_11 ?_
  refine lv_bipush (v := 8) hx hb dX12_copyValley_14 (by decide) ?_
  refine lv_iload_n hx hb dX12_copyValley_16 rfl (lv_at hl 1 rfl) ?_
  refine lv_iload_n hx hb dX12_copyValley_17 rfl (lv_at hl 2 rfl) ?_
  have hPc := hP.sub (ws' := [(m17, .inl (k17, 40, .inl (fun _ => 0)))]) [1] rfl
  have hKc := hK.sub (tys' := [(k17, .int)]) [0] rfl
  have hDc := hD.sub (ws' := [(m17, .inl (k17, 40, .inl (fun _ => 0)))]) [1] (by decide) rfl
  have hFc := va_free (wc := [(m17, .inl (k17, 40, .inl (fun _ => 0)))]) hD hS hA [1] rfl
  refine va_callv (va_runS (As := [.ref m17, .int 8, .int 0, .int 2]) (rest := []) ⟨hx, hb, hml, hown, hts⟩ (f_X12_copyRow_has_02 l dC dI H.size m17 k17) (va_cwS 4 hts (gk_S (wl_mem 1 rfl) (wl_mem 2 rfl) (wl_mem 3 rfl) (fun w h => List.mem_cons_of_mem _ (List.mem_append_right _ (List.mem_append_right _ (List.mem_append_right _ (List.mem_append_left _ h))))) wkg_f_X12_copyRow_has_02) rfl rfl rfl (by decide +kernel) ⟨Nat.le_of_ble_eq_true rfl, Nat.le_of_ble_eq_true rfl⟩) ⟨fun a U g mk q => by obtain ⟨q0, q1, qP, qK, qD⟩ := q; exact ⟨q0, q1, qP, va_K.moved (u := U) (U := U.calling g mk a) (Vm.Alike.refl U.vm) qK, qD⟩, fun U hU hW => ⟨rfl, by rw [hU], by rw [hU]; exact hPc, va_K.moved hW.alike hKc, hDc.weaken (fun _ _ _ _ => trivial)⟩⟩ rfl rfl hl.1 rfl (lv_room (Nat.le_of_ble_eq_true rfl)) dX12_copyValley_18 ⟨Nat.le_of_ble_eq_true rfl, Nat.le_of_ble_eq_true rfl⟩) hS (fun q _ h => hFc q h) hFc (fun u t H1 locs ht hvm hz3 hB hz1 hk1 hS => ?_)
  obtain ⟨hP1, hK1, hD1⟩ := hB
  rw [ht] at hP1
  have hK1 := va_K.moved hvm.symm hK1
  obtain ⟨hP, hD⟩ := va_join (wr := [(h0, .inr (12, [.int 0, .ref m1, .ref m2, .ref m3, .ref m4, .ref m5, .int 0, .int 0, .int 0, .int 0, .int 0, .long 0, .int 0, .int bp, .int 0, .int (-1), .ref m16, .ref m17, .ref m18, .ref m19, .ref m20, .ref m21, .ref m22, .ref m23, .int 0, .int 0, .int 0, .ref m27, .ref m28, .ref m29, .ref m30, .ref m31, .ref m32, .ref m33, .ref m34, .ref m35, .ref m36, .ref m37, .ref m38, .ref m39, .ref m40, .ref m41, .ref m42, .int 0, .int 0, .int 0, .ref m46, .int 0, .int 0, .int 0, .int 0, .int 0, .int 0, .ref m53, .int 0, .int 0, .int 0, .ref m57, .ref m58])), (m18, .inl (k18, 30, .inl (fun _ => 0))), (m19, .inl (k19, 70, .inl (fun _ => 0))), (m20, .inl (k20, 75, .inl (fun _ => 0))), (m21, .inl (k21, 20, .inl (fun _ => 0))), (m22, .inl (k22, 450, .inl (fun _ => 0))), (m16, .inl (k16, 5, .inl (fun _ => 0)))]) (w1 := [(m17, .inl (k17, 40, .inl (fun _ => 0)))]) hP hD [1] [0, 2, 3, 4, 5, 6, 7] rfl rfl (by decide) (by decide) hk1 hFc hP1 hD1
  have hK := (hK.sub (tys' := [(k18, .int), (k19, .int), (k20, .int), (k21, .int), (k22, .int), (k16, .int)]) [1, 2, 3, 4, 5, 6] rfl).app hK1
  generalize H1 = H at hP hS ⊢
  have hK : va_K (dC, dI) vwCl [(k18, .int), (k19, .int), (k20, .int), (k21, .int), (k22, .int), (k16, .int), (k17, .int)] s := hK
  have hP : va_P (dC, dI) vwCl [(h0, .inr (12, [.int 0, .ref m1, .ref m2, .ref m3, .ref m4, .ref m5, .int 0, .int 0, .int 0, .int 0, .int 0, .long 0, .int 0, .int bp, .int 0, .int (-1), .ref m16, .ref m17, .ref m18, .ref m19, .ref m20, .ref m21, .ref m22, .ref m23, .int 0, .int 0, .int 0, .ref m27, .ref m28, .ref m29, .ref m30, .ref m31, .ref m32, .ref m33, .ref m34, .ref m35, .ref m36, .ref m37, .ref m38, .ref m39, .ref m40, .ref m41, .ref m42, .int 0, .int 0, .int 0, .ref m46, .int 0, .int 0, .int 0, .int 0, .int 0, .int 0, .ref m53, .int 0, .int 0, .int 0, .ref m57, .ref m58])), (m18, .inl (k18, 30, .inl (fun _ => 0))), (m19, .inl (k19, 70, .inl (fun _ => 0))), (m20, .inl (k20, 75, .inl (fun _ => 0))), (m21, .inl (k21, 20, .inl (fun _ => 0))), (m22, .inl (k22, 450, .inl (fun _ => 0))), (m16, .inl (k16, 5, .inl (fun _ => 0))), (m17, .inl (k17, 40, .inl (fun _ => 0)))] H := hP
  have hD : va_D A [(h0, .inr (12, [.int 0, .ref m1, .ref m2, .ref m3, .ref m4, .ref m5, .int 0, .int 0, .int 0, .int 0, .int 0, .long 0, .int 0, .int bp, .int 0, .int (-1), .ref m16, .ref m17, .ref m18, .ref m19, .ref m20, .ref m21, .ref m22, .ref m23, .int 0, .int 0, .int 0, .ref m27, .ref m28, .ref m29, .ref m30, .ref m31, .ref m32, .ref m33, .ref m34, .ref m35, .ref m36, .ref m37, .ref m38, .ref m39, .ref m40, .ref m41, .ref m42, .int 0, .int 0, .int 0, .ref m46, .int 0, .int 0, .int 0, .int 0, .int 0, .int 0, .ref m53, .int 0, .int 0, .int 0, .ref m57, .ref m58])), (m18, .inl (k18, 30, .inl (fun _ => 0))), (m19, .inl (k19, 70, .inl (fun _ => 0))), (m20, .inl (k20, 75, .inl (fun _ => 0))), (m21, .inl (k21, 20, .inl (fun _ => 0))), (m22, .inl (k22, 450, .inl (fun _ => 0))), (m16, .inl (k16, 5, .inl (fun _ => 0))), (m17, .inl (k17, 40, .inl (fun _ => 0)))] := hD
  refine W.widen (k := 0) (n := 0) (Nat.le_of_ble_eq_true rfl) (Nat.le_of_ble_eq_true rfl) ?_
  refine lv_aload_n hx hb dX12_copyValley_21 rfl (lv_at hl 0 rfl) ?_
  refine va_get (D := (dC, dI)) (ci := 12) (v := .ref m18) (C := RX12) (T := TX12) (N := 59) hx hb hts (fun w h => List.mem_cons_of_mem _ (List.mem_append_right _ (List.mem_append_left _ h))) hown hK hP 0 rfl rfl 18 (by decide) (hts (.fieldLink RX12 37 "SagMemoryModel" "bridge" "[I") (wl_mem 5 rfl)) (fun _ h9 => h9) rfl dX12_copyValley_22 ?_
  refine lv_bipush (v := 6) hx hb dX12_copyValley_25 (by decide) ?_
  refine lv_iload_n hx hb dX12_copyValley_27 rfl (lv_at hl 1 rfl) ?_
  refine lv_iload_n hx hb dX12_copyValley_28 rfl (lv_at hl 2 rfl) ?_
  have hPc := hP.sub (ws' := [(m18, .inl (k18, 30, .inl (fun _ => 0)))]) [1] rfl
  have hKc := hK.sub (tys' := [(k18, .int)]) [0] rfl
  have hDc := hD.sub (ws' := [(m18, .inl (k18, 30, .inl (fun _ => 0)))]) [1] (by decide) rfl
  have hFc := va_free (wc := [(m18, .inl (k18, 30, .inl (fun _ => 0)))]) hD hS hA [1] rfl
  refine va_callv (va_runS (As := [.ref m18, .int 6, .int 0, .int 2]) (rest := []) ⟨hx, hb, hml, hown, hts⟩ (f_X12_copyRow_bridge_02 l dC dI H.size m18 k18) (va_cwS 4 hts (gk_S (wl_mem 1 rfl) (wl_mem 2 rfl) (wl_mem 3 rfl) (fun w h => List.mem_cons_of_mem _ (List.mem_append_right _ (List.mem_append_right _ (List.mem_append_right _ (List.mem_append_right _ (List.mem_append_left _ h)))))) wkg_f_X12_copyRow_bridge_02) rfl rfl rfl (by decide +kernel) ⟨Nat.le_of_ble_eq_true rfl, Nat.le_of_ble_eq_true rfl⟩) ⟨fun a U g mk q => by obtain ⟨q0, q1, qP, qK, qD⟩ := q; exact ⟨q0, q1, qP, va_K.moved (u := U) (U := U.calling g mk a) (Vm.Alike.refl U.vm) qK, qD⟩, fun U hU hW => ⟨rfl, by rw [hU], by rw [hU]; exact hPc, va_K.moved hW.alike hKc, hDc.weaken (fun _ _ _ _ => trivial)⟩⟩ rfl rfl hl.1 rfl (lv_room (Nat.le_of_ble_eq_true rfl)) dX12_copyValley_29 ⟨Nat.le_of_ble_eq_true rfl, Nat.le_of_ble_eq_true rfl⟩) hS (fun q _ h => hFc q h) hFc (fun u t H1 locs ht hvm hz5 hB hz1 hk1 hS => ?_)
  obtain ⟨hP1, hK1, hD1⟩ := hB
  rw [ht] at hP1
  have hK1 := va_K.moved hvm.symm hK1
  obtain ⟨hP, hD⟩ := va_join (wr := [(h0, .inr (12, [.int 0, .ref m1, .ref m2, .ref m3, .ref m4, .ref m5, .int 0, .int 0, .int 0, .int 0, .int 0, .long 0, .int 0, .int bp, .int 0, .int (-1), .ref m16, .ref m17, .ref m18, .ref m19, .ref m20, .ref m21, .ref m22, .ref m23, .int 0, .int 0, .int 0, .ref m27, .ref m28, .ref m29, .ref m30, .ref m31, .ref m32, .ref m33, .ref m34, .ref m35, .ref m36, .ref m37, .ref m38, .ref m39, .ref m40, .ref m41, .ref m42, .int 0, .int 0, .int 0, .ref m46, .int 0, .int 0, .int 0, .int 0, .int 0, .int 0, .ref m53, .int 0, .int 0, .int 0, .ref m57, .ref m58])), (m19, .inl (k19, 70, .inl (fun _ => 0))), (m20, .inl (k20, 75, .inl (fun _ => 0))), (m21, .inl (k21, 20, .inl (fun _ => 0))), (m22, .inl (k22, 450, .inl (fun _ => 0))), (m16, .inl (k16, 5, .inl (fun _ => 0))), (m17, .inl (k17, 40, .inl (fun _ => 0)))]) (w1 := [(m18, .inl (k18, 30, .inl (fun _ => 0)))]) hP hD [1] [0, 2, 3, 4, 5, 6, 7] rfl rfl (by decide) (by decide) hk1 hFc hP1 hD1
  have hK := (hK.sub (tys' := [(k19, .int), (k20, .int), (k21, .int), (k22, .int), (k16, .int), (k17, .int)]) [1, 2, 3, 4, 5, 6] rfl).app hK1
  generalize H1 = H at hP hS ⊢
  have hK : va_K (dC, dI) vwCl [(k19, .int), (k20, .int), (k21, .int), (k22, .int), (k16, .int), (k17, .int), (k18, .int)] s := hK
  have hP : va_P (dC, dI) vwCl [(h0, .inr (12, [.int 0, .ref m1, .ref m2, .ref m3, .ref m4, .ref m5, .int 0, .int 0, .int 0, .int 0, .int 0, .long 0, .int 0, .int bp, .int 0, .int (-1), .ref m16, .ref m17, .ref m18, .ref m19, .ref m20, .ref m21, .ref m22, .ref m23, .int 0, .int 0, .int 0, .ref m27, .ref m28, .ref m29, .ref m30, .ref m31, .ref m32, .ref m33, .ref m34, .ref m35, .ref m36, .ref m37, .ref m38, .ref m39, .ref m40, .ref m41, .ref m42, .int 0, .int 0, .int 0, .ref m46, .int 0, .int 0, .int 0, .int 0, .int 0, .int 0, .ref m53, .int 0, .int 0, .int 0, .ref m57, .ref m58])), (m19, .inl (k19, 70, .inl (fun _ => 0))), (m20, .inl (k20, 75, .inl (fun _ => 0))), (m21, .inl (k21, 20, .inl (fun _ => 0))), (m22, .inl (k22, 450, .inl (fun _ => 0))), (m16, .inl (k16, 5, .inl (fun _ => 0))), (m17, .inl (k17, 40, .inl (fun _ => 0))), (m18, .inl (k18, 30, .inl (fun _ => 0)))] H := hP
  have hD : va_D A [(h0, .inr (12, [.int 0, .ref m1, .ref m2, .ref m3, .ref m4, .ref m5, .int 0, .int 0, .int 0, .int 0, .int 0, .long 0, .int 0, .int bp, .int 0, .int (-1), .ref m16, .ref m17, .ref m18, .ref m19, .ref m20, .ref m21, .ref m22, .ref m23, .int 0, .int 0, .int 0, .ref m27, .ref m28, .ref m29, .ref m30, .ref m31, .ref m32, .ref m33, .ref m34, .ref m35, .ref m36, .ref m37, .ref m38, .ref m39, .ref m40, .ref m41, .ref m42, .int 0, .int 0, .int 0, .ref m46, .int 0, .int 0, .int 0, .int 0, .int 0, .int 0, .ref m53, .int 0, .int 0, .int 0, .ref m57, .ref m58])), (m19, .inl (k19, 70, .inl (fun _ => 0))), (m20, .inl (k20, 75, .inl (fun _ => 0))), (m21, .inl (k21, 20, .inl (fun _ => 0))), (m22, .inl (k22, 450, .inl (fun _ => 0))), (m16, .inl (k16, 5, .inl (fun _ => 0))), (m17, .inl (k17, 40, .inl (fun _ => 0))), (m18, .inl (k18, 30, .inl (fun _ => 0)))] := hD
  refine W.widen (k := 0) (n := 0) (Nat.le_of_ble_eq_true rfl) (Nat.le_of_ble_eq_true rfl) ?_
  refine lv_aload_n hx hb dX12_copyValley_32 rfl (lv_at hl 0 rfl) ?_
  refine va_get (D := (dC, dI)) (ci := 12) (v := .ref m19) (C := RX12) (T := TX12) (N := 59) hx hb hts (fun w h => List.mem_cons_of_mem _ (List.mem_append_right _ (List.mem_append_left _ h))) hown hK hP 0 rfl rfl 19 (by decide) (hts (.fieldLink RX12 40 "SagMemoryModel" "cart" "[I") (wl_mem 6 rfl)) (fun _ h9 => h9) rfl dX12_copyValley_33 ?_
  refine lv_bipush (v := 14) hx hb dX12_copyValley_36 (by decide) ?_
  refine lv_iload_n hx hb dX12_copyValley_38 rfl (lv_at hl 1 rfl) ?_
  refine lv_iload_n hx hb dX12_copyValley_39 rfl (lv_at hl 2 rfl) ?_
  have hPc := hP.sub (ws' := [(m19, .inl (k19, 70, .inl (fun _ => 0)))]) [1] rfl
  have hKc := hK.sub (tys' := [(k19, .int)]) [0] rfl
  have hDc := hD.sub (ws' := [(m19, .inl (k19, 70, .inl (fun _ => 0)))]) [1] (by decide) rfl
  have hFc := va_free (wc := [(m19, .inl (k19, 70, .inl (fun _ => 0)))]) hD hS hA [1] rfl
  refine va_callv (va_runS (As := [.ref m19, .int 14, .int 0, .int 2]) (rest := []) ⟨hx, hb, hml, hown, hts⟩ (f_X12_copyRow_cart_02 l dC dI H.size m19 k19) (va_cwS 4 hts (gk_S (wl_mem 1 rfl) (wl_mem 2 rfl) (wl_mem 3 rfl) (fun w h => List.mem_cons_of_mem _ (List.mem_append_right _ (List.mem_append_right _ (List.mem_append_right _ (List.mem_append_right _ (List.mem_append_right _ (List.mem_append_left _ h))))))) wkg_f_X12_copyRow_cart_02) rfl rfl rfl (by decide +kernel) ⟨Nat.le_of_ble_eq_true rfl, Nat.le_of_ble_eq_true rfl⟩) ⟨fun a U g mk q => by obtain ⟨q0, q1, qP, qK, qD⟩ := q; exact ⟨q0, q1, qP, va_K.moved (u := U) (U := U.calling g mk a) (Vm.Alike.refl U.vm) qK, qD⟩, fun U hU hW => ⟨rfl, by rw [hU], by rw [hU]; exact hPc, va_K.moved hW.alike hKc, hDc.weaken (fun _ _ _ _ => trivial)⟩⟩ rfl rfl hl.1 rfl (lv_room (Nat.le_of_ble_eq_true rfl)) dX12_copyValley_40 ⟨Nat.le_of_ble_eq_true rfl, Nat.le_of_ble_eq_true rfl⟩) hS (fun q _ h => hFc q h) hFc (fun u t H1 locs ht hvm hz7 hB hz1 hk1 hS => ?_)
  obtain ⟨hP1, hK1, hD1⟩ := hB
  rw [ht] at hP1
  have hK1 := va_K.moved hvm.symm hK1
  obtain ⟨hP, hD⟩ := va_join (wr := [(h0, .inr (12, [.int 0, .ref m1, .ref m2, .ref m3, .ref m4, .ref m5, .int 0, .int 0, .int 0, .int 0, .int 0, .long 0, .int 0, .int bp, .int 0, .int (-1), .ref m16, .ref m17, .ref m18, .ref m19, .ref m20, .ref m21, .ref m22, .ref m23, .int 0, .int 0, .int 0, .ref m27, .ref m28, .ref m29, .ref m30, .ref m31, .ref m32, .ref m33, .ref m34, .ref m35, .ref m36, .ref m37, .ref m38, .ref m39, .ref m40, .ref m41, .ref m42, .int 0, .int 0, .int 0, .ref m46, .int 0, .int 0, .int 0, .int 0, .int 0, .int 0, .ref m53, .int 0, .int 0, .int 0, .ref m57, .ref m58])), (m20, .inl (k20, 75, .inl (fun _ => 0))), (m21, .inl (k21, 20, .inl (fun _ => 0))), (m22, .inl (k22, 450, .inl (fun _ => 0))), (m16, .inl (k16, 5, .inl (fun _ => 0))), (m17, .inl (k17, 40, .inl (fun _ => 0))), (m18, .inl (k18, 30, .inl (fun _ => 0)))]) (w1 := [(m19, .inl (k19, 70, .inl (fun _ => 0)))]) hP hD [1] [0, 2, 3, 4, 5, 6, 7] rfl rfl (by decide) (by decide) hk1 hFc hP1 hD1
  have hK := (hK.sub (tys' := [(k20, .int), (k21, .int), (k22, .int), (k16, .int), (k17, .int), (k18, .int)]) [1, 2, 3, 4, 5, 6] rfl).app hK1
  generalize H1 = H at hP hS ⊢
  have hK : va_K (dC, dI) vwCl [(k20, .int), (k21, .int), (k22, .int), (k16, .int), (k17, .int), (k18, .int), (k19, .int)] s := hK
  have hP : va_P (dC, dI) vwCl [(h0, .inr (12, [.int 0, .ref m1, .ref m2, .ref m3, .ref m4, .ref m5, .int 0, .int 0, .int 0, .int 0, .int 0, .long 0, .int 0, .int bp, .int 0, .int (-1), .ref m16, .ref m17, .ref m18, .ref m19, .ref m20, .ref m21, .ref m22, .ref m23, .int 0, .int 0, .int 0, .ref m27, .ref m28, .ref m29, .ref m30, .ref m31, .ref m32, .ref m33, .ref m34, .ref m35, .ref m36, .ref m37, .ref m38, .ref m39, .ref m40, .ref m41, .ref m42, .int 0, .int 0, .int 0, .ref m46, .int 0, .int 0, .int 0, .int 0, .int 0, .int 0, .ref m53, .int 0, .int 0, .int 0, .ref m57, .ref m58])), (m20, .inl (k20, 75, .inl (fun _ => 0))), (m21, .inl (k21, 20, .inl (fun _ => 0))), (m22, .inl (k22, 450, .inl (fun _ => 0))), (m16, .inl (k16, 5, .inl (fun _ => 0))), (m17, .inl (k17, 40, .inl (fun _ => 0))), (m18, .inl (k18, 30, .inl (fun _ => 0))), (m19, .inl (k19, 70, .inl (fun _ => 0)))] H := hP
  have hD : va_D A [(h0, .inr (12, [.int 0, .ref m1, .ref m2, .ref m3, .ref m4, .ref m5, .int 0, .int 0, .int 0, .int 0, .int 0, .long 0, .int 0, .int bp, .int 0, .int (-1), .ref m16, .ref m17, .ref m18, .ref m19, .ref m20, .ref m21, .ref m22, .ref m23, .int 0, .int 0, .int 0, .ref m27, .ref m28, .ref m29, .ref m30, .ref m31, .ref m32, .ref m33, .ref m34, .ref m35, .ref m36, .ref m37, .ref m38, .ref m39, .ref m40, .ref m41, .ref m42, .int 0, .int 0, .int 0, .ref m46, .int 0, .int 0, .int 0, .int 0, .int 0, .int 0, .ref m53, .int 0, .int 0, .int 0, .ref m57, .ref m58])), (m20, .inl (k20, 75, .inl (fun _ => 0))), (m21, .inl (k21, 20, .inl (fun _ => 0))), (m22, .inl (k22, 450, .inl (fun _ => 0))), (m16, .inl (k16, 5, .inl (fun _ => 0))), (m17, .inl (k17, 40, .inl (fun _ => 0))), (m18, .inl (k18, 30, .inl (fun _ => 0))), (m19, .inl (k19, 70, .inl (fun _ => 0)))] := hD
  refine W.widen (k := 0) (n := 0) (Nat.le_of_ble_eq_true rfl) (Nat.le_of_ble_eq_true rfl) ?_
  refine lv_aload_n hx hb dX12_copyValley_43 rfl (lv_at hl 0 rfl) ?_
  refine va_get (D := (dC, dI)) (ci := 12) (v := .ref m20) (C := RX12) (T := TX12) (N := 59) hx hb hts (fun w h => List.mem_cons_of_mem _ (List.mem_append_right _ (List.mem_append_left _ h))) hown hK hP 0 rfl rfl 20 (by decide) (hts (.fieldLink RX12 43 "SagMemoryModel" "ward" "[I") (wl_mem 7 rfl)) (fun _ h9 => h9) rfl dX12_copyValley_44 ?_
  refine lv_bipush (v := 15) hx hb dX12_copyValley_47 (by decide) ?_
  refine lv_iload_n hx hb dX12_copyValley_49 rfl (lv_at hl 1 rfl) ?_
  refine lv_iload_n hx hb dX12_copyValley_50 rfl (lv_at hl 2 rfl) ?_
  have hPc := hP.sub (ws' := [(m20, .inl (k20, 75, .inl (fun _ => 0)))]) [1] rfl
  have hKc := hK.sub (tys' := [(k20, .int)]) [0] rfl
  have hDc := hD.sub (ws' := [(m20, .inl (k20, 75, .inl (fun _ => 0)))]) [1] (by decide) rfl
  have hFc := va_free (wc := [(m20, .inl (k20, 75, .inl (fun _ => 0)))]) hD hS hA [1] rfl
  refine va_callv (va_runS (As := [.ref m20, .int 15, .int 0, .int 2]) (rest := []) ⟨hx, hb, hml, hown, hts⟩ (f_X12_copyRow_ward_02 l dC dI H.size m20 k20) (va_cwS 4 hts (gk_S (wl_mem 1 rfl) (wl_mem 2 rfl) (wl_mem 3 rfl) (fun w h => List.mem_cons_of_mem _ (List.mem_append_right _ (List.mem_append_right _ (List.mem_append_right _ (List.mem_append_right _ (List.mem_append_right _ (List.mem_append_right _ (List.mem_append_left _ h)))))))) wkg_f_X12_copyRow_ward_02) rfl rfl rfl (by decide +kernel) ⟨Nat.le_of_ble_eq_true rfl, Nat.le_of_ble_eq_true rfl⟩) ⟨fun a U g mk q => by obtain ⟨q0, q1, qP, qK, qD⟩ := q; exact ⟨q0, q1, qP, va_K.moved (u := U) (U := U.calling g mk a) (Vm.Alike.refl U.vm) qK, qD⟩, fun U hU hW => ⟨rfl, by rw [hU], by rw [hU]; exact hPc, va_K.moved hW.alike hKc, hDc.weaken (fun _ _ _ _ => trivial)⟩⟩ rfl rfl hl.1 rfl (lv_room (Nat.le_of_ble_eq_true rfl)) dX12_copyValley_51 ⟨Nat.le_of_ble_eq_true rfl, Nat.le_of_ble_eq_true rfl⟩) hS (fun q _ h => hFc q h) hFc (fun u t H1 locs ht hvm hz9 hB hz1 hk1 hS => ?_)
  obtain ⟨hP1, hK1, hD1⟩ := hB
  rw [ht] at hP1
  have hK1 := va_K.moved hvm.symm hK1
  obtain ⟨hP, hD⟩ := va_join (wr := [(h0, .inr (12, [.int 0, .ref m1, .ref m2, .ref m3, .ref m4, .ref m5, .int 0, .int 0, .int 0, .int 0, .int 0, .long 0, .int 0, .int bp, .int 0, .int (-1), .ref m16, .ref m17, .ref m18, .ref m19, .ref m20, .ref m21, .ref m22, .ref m23, .int 0, .int 0, .int 0, .ref m27, .ref m28, .ref m29, .ref m30, .ref m31, .ref m32, .ref m33, .ref m34, .ref m35, .ref m36, .ref m37, .ref m38, .ref m39, .ref m40, .ref m41, .ref m42, .int 0, .int 0, .int 0, .ref m46, .int 0, .int 0, .int 0, .int 0, .int 0, .int 0, .ref m53, .int 0, .int 0, .int 0, .ref m57, .ref m58])), (m21, .inl (k21, 20, .inl (fun _ => 0))), (m22, .inl (k22, 450, .inl (fun _ => 0))), (m16, .inl (k16, 5, .inl (fun _ => 0))), (m17, .inl (k17, 40, .inl (fun _ => 0))), (m18, .inl (k18, 30, .inl (fun _ => 0))), (m19, .inl (k19, 70, .inl (fun _ => 0)))]) (w1 := [(m20, .inl (k20, 75, .inl (fun _ => 0)))]) hP hD [1] [0, 2, 3, 4, 5, 6, 7] rfl rfl (by decide) (by decide) hk1 hFc hP1 hD1
  have hK := (hK.sub (tys' := [(k21, .int), (k22, .int), (k16, .int), (k17, .int), (k18, .int), (k19, .int)]) [1, 2, 3, 4, 5, 6] rfl).app hK1
  generalize H1 = H at hP hS ⊢
  have hK : va_K (dC, dI) vwCl [(k21, .int), (k22, .int), (k16, .int), (k17, .int), (k18, .int), (k19, .int), (k20, .int)] s := hK
  have hP : va_P (dC, dI) vwCl [(h0, .inr (12, [.int 0, .ref m1, .ref m2, .ref m3, .ref m4, .ref m5, .int 0, .int 0, .int 0, .int 0, .int 0, .long 0, .int 0, .int bp, .int 0, .int (-1), .ref m16, .ref m17, .ref m18, .ref m19, .ref m20, .ref m21, .ref m22, .ref m23, .int 0, .int 0, .int 0, .ref m27, .ref m28, .ref m29, .ref m30, .ref m31, .ref m32, .ref m33, .ref m34, .ref m35, .ref m36, .ref m37, .ref m38, .ref m39, .ref m40, .ref m41, .ref m42, .int 0, .int 0, .int 0, .ref m46, .int 0, .int 0, .int 0, .int 0, .int 0, .int 0, .ref m53, .int 0, .int 0, .int 0, .ref m57, .ref m58])), (m21, .inl (k21, 20, .inl (fun _ => 0))), (m22, .inl (k22, 450, .inl (fun _ => 0))), (m16, .inl (k16, 5, .inl (fun _ => 0))), (m17, .inl (k17, 40, .inl (fun _ => 0))), (m18, .inl (k18, 30, .inl (fun _ => 0))), (m19, .inl (k19, 70, .inl (fun _ => 0))), (m20, .inl (k20, 75, .inl (fun _ => 0)))] H := hP
  have hD : va_D A [(h0, .inr (12, [.int 0, .ref m1, .ref m2, .ref m3, .ref m4, .ref m5, .int 0, .int 0, .int 0, .int 0, .int 0, .long 0, .int 0, .int bp, .int 0, .int (-1), .ref m16, .ref m17, .ref m18, .ref m19, .ref m20, .ref m21, .ref m22, .ref m23, .int 0, .int 0, .int 0, .ref m27, .ref m28, .ref m29, .ref m30, .ref m31, .ref m32, .ref m33, .ref m34, .ref m35, .ref m36, .ref m37, .ref m38, .ref m39, .ref m40, .ref m41, .ref m42, .int 0, .int 0, .int 0, .ref m46, .int 0, .int 0, .int 0, .int 0, .int 0, .int 0, .ref m53, .int 0, .int 0, .int 0, .ref m57, .ref m58])), (m21, .inl (k21, 20, .inl (fun _ => 0))), (m22, .inl (k22, 450, .inl (fun _ => 0))), (m16, .inl (k16, 5, .inl (fun _ => 0))), (m17, .inl (k17, 40, .inl (fun _ => 0))), (m18, .inl (k18, 30, .inl (fun _ => 0))), (m19, .inl (k19, 70, .inl (fun _ => 0))), (m20, .inl (k20, 75, .inl (fun _ => 0)))] := hD
  refine W.widen (k := 0) (n := 0) (Nat.le_of_ble_eq_true rfl) (Nat.le_of_ble_eq_true rfl) ?_
  refine lv_aload_n hx hb dX12_copyValley_54 rfl (lv_at hl 0 rfl) ?_
  refine va_get (D := (dC, dI)) (ci := 12) (v := .ref m21) (C := RX12) (T := TX12) (N := 59) hx hb hts (fun w h => List.mem_cons_of_mem _ (List.mem_append_right _ (List.mem_append_left _ h))) hown hK hP 0 rfl rfl 21 (by decide) (hts (.fieldLink RX12 46 "SagMemoryModel" "frostAt" "[I") (wl_mem 8 rfl)) (fun _ h9 => h9) rfl dX12_copyValley_55 ?_
  refine lv_iconst (v := 4) hx hb dX12_copyValley_58 (by decide) ?_
  refine lv_iload_n hx hb dX12_copyValley_59 rfl (lv_at hl 1 rfl) ?_
  refine lv_iload_n hx hb dX12_copyValley_60 rfl (lv_at hl 2 rfl) ?_
  have hPc := hP.sub (ws' := [(m21, .inl (k21, 20, .inl (fun _ => 0)))]) [1] rfl
  have hKc := hK.sub (tys' := [(k21, .int)]) [0] rfl
  have hDc := hD.sub (ws' := [(m21, .inl (k21, 20, .inl (fun _ => 0)))]) [1] (by decide) rfl
  have hFc := va_free (wc := [(m21, .inl (k21, 20, .inl (fun _ => 0)))]) hD hS hA [1] rfl
  refine va_callv (va_runS (As := [.ref m21, .int 4, .int 0, .int 2]) (rest := []) ⟨hx, hb, hml, hown, hts⟩ (f_X12_copyRow_frostAt_02 l dC dI H.size m21 k21) (va_cwS 4 hts (gk_S (wl_mem 1 rfl) (wl_mem 2 rfl) (wl_mem 3 rfl) (fun w h => List.mem_cons_of_mem _ (List.mem_append_right _ (List.mem_append_right _ (List.mem_append_right _ (List.mem_append_right _ (List.mem_append_right _ (List.mem_append_right _ (List.mem_append_right _ (List.mem_append_left _ h))))))))) wkg_f_X12_copyRow_frostAt_02) rfl rfl rfl (by decide +kernel) ⟨Nat.le_of_ble_eq_true rfl, Nat.le_of_ble_eq_true rfl⟩) ⟨fun a U g mk q => by obtain ⟨q0, q1, qP, qK, qD⟩ := q; exact ⟨q0, q1, qP, va_K.moved (u := U) (U := U.calling g mk a) (Vm.Alike.refl U.vm) qK, qD⟩, fun U hU hW => ⟨rfl, by rw [hU], by rw [hU]; exact hPc, va_K.moved hW.alike hKc, hDc.weaken (fun _ _ _ _ => trivial)⟩⟩ rfl rfl hl.1 rfl (lv_room (Nat.le_of_ble_eq_true rfl)) dX12_copyValley_61 ⟨Nat.le_of_ble_eq_true rfl, Nat.le_of_ble_eq_true rfl⟩) hS (fun q _ h => hFc q h) hFc (fun u t H1 locs ht hvm hz11 hB hz1 hk1 hS => ?_)
  obtain ⟨hP1, hK1, hD1⟩ := hB
  rw [ht] at hP1
  have hK1 := va_K.moved hvm.symm hK1
  obtain ⟨hP, hD⟩ := va_join (wr := [(h0, .inr (12, [.int 0, .ref m1, .ref m2, .ref m3, .ref m4, .ref m5, .int 0, .int 0, .int 0, .int 0, .int 0, .long 0, .int 0, .int bp, .int 0, .int (-1), .ref m16, .ref m17, .ref m18, .ref m19, .ref m20, .ref m21, .ref m22, .ref m23, .int 0, .int 0, .int 0, .ref m27, .ref m28, .ref m29, .ref m30, .ref m31, .ref m32, .ref m33, .ref m34, .ref m35, .ref m36, .ref m37, .ref m38, .ref m39, .ref m40, .ref m41, .ref m42, .int 0, .int 0, .int 0, .ref m46, .int 0, .int 0, .int 0, .int 0, .int 0, .int 0, .ref m53, .int 0, .int 0, .int 0, .ref m57, .ref m58])), (m22, .inl (k22, 450, .inl (fun _ => 0))), (m16, .inl (k16, 5, .inl (fun _ => 0))), (m17, .inl (k17, 40, .inl (fun _ => 0))), (m18, .inl (k18, 30, .inl (fun _ => 0))), (m19, .inl (k19, 70, .inl (fun _ => 0))), (m20, .inl (k20, 75, .inl (fun _ => 0)))]) (w1 := [(m21, .inl (k21, 20, .inl (fun _ => 0)))]) hP hD [1] [0, 2, 3, 4, 5, 6, 7] rfl rfl (by decide) (by decide) hk1 hFc hP1 hD1
  have hK := (hK.sub (tys' := [(k22, .int), (k16, .int), (k17, .int), (k18, .int), (k19, .int), (k20, .int)]) [1, 2, 3, 4, 5, 6] rfl).app hK1
  generalize H1 = H at hP hS ⊢
  have hK : va_K (dC, dI) vwCl [(k22, .int), (k16, .int), (k17, .int), (k18, .int), (k19, .int), (k20, .int), (k21, .int)] s := hK
  have hP : va_P (dC, dI) vwCl [(h0, .inr (12, [.int 0, .ref m1, .ref m2, .ref m3, .ref m4, .ref m5, .int 0, .int 0, .int 0, .int 0, .int 0, .long 0, .int 0, .int bp, .int 0, .int (-1), .ref m16, .ref m17, .ref m18, .ref m19, .ref m20, .ref m21, .ref m22, .ref m23, .int 0, .int 0, .int 0, .ref m27, .ref m28, .ref m29, .ref m30, .ref m31, .ref m32, .ref m33, .ref m34, .ref m35, .ref m36, .ref m37, .ref m38, .ref m39, .ref m40, .ref m41, .ref m42, .int 0, .int 0, .int 0, .ref m46, .int 0, .int 0, .int 0, .int 0, .int 0, .int 0, .ref m53, .int 0, .int 0, .int 0, .ref m57, .ref m58])), (m22, .inl (k22, 450, .inl (fun _ => 0))), (m16, .inl (k16, 5, .inl (fun _ => 0))), (m17, .inl (k17, 40, .inl (fun _ => 0))), (m18, .inl (k18, 30, .inl (fun _ => 0))), (m19, .inl (k19, 70, .inl (fun _ => 0))), (m20, .inl (k20, 75, .inl (fun _ => 0))), (m21, .inl (k21, 20, .inl (fun _ => 0)))] H := hP
  have hD : va_D A [(h0, .inr (12, [.int 0, .ref m1, .ref m2, .ref m3, .ref m4, .ref m5, .int 0, .int 0, .int 0, .int 0, .int 0, .long 0, .int 0, .int bp, .int 0, .int (-1), .ref m16, .ref m17, .ref m18, .ref m19, .ref m20, .ref m21, .ref m22, .ref m23, .int 0, .int 0, .int 0, .ref m27, .ref m28, .ref m29, .ref m30, .ref m31, .ref m32, .ref m33, .ref m34, .ref m35, .ref m36, .ref m37, .ref m38, .ref m39, .ref m40, .ref m41, .ref m42, .int 0, .int 0, .int 0, .ref m46, .int 0, .int 0, .int 0, .int 0, .int 0, .int 0, .ref m53, .int 0, .int 0, .int 0, .ref m57, .ref m58])), (m22, .inl (k22, 450, .inl (fun _ => 0))), (m16, .inl (k16, 5, .inl (fun _ => 0))), (m17, .inl (k17, 40, .inl (fun _ => 0))), (m18, .inl (k18, 30, .inl (fun _ => 0))), (m19, .inl (k19, 70, .inl (fun _ => 0))), (m20, .inl (k20, 75, .inl (fun _ => 0))), (m21, .inl (k21, 20, .inl (fun _ => 0)))] := hD
  refine W.widen (k := 0) (n := 0) (Nat.le_of_ble_eq_true rfl) (Nat.le_of_ble_eq_true rfl) ?_
  refine lv_aload_n hx hb dX12_copyValley_64 rfl (lv_at hl 0 rfl) ?_
  refine va_get (D := (dC, dI)) (ci := 12) (v := .ref m22) (C := RX12) (T := TX12) (N := 59) hx hb hts (fun w h => List.mem_cons_of_mem _ (List.mem_append_right _ (List.mem_append_left _ h))) hown hK hP 0 rfl rfl 22 (by decide) (hts (.fieldLink RX12 49 "SagMemoryModel" "act" "[I") (wl_mem 9 rfl)) (fun _ h9 => h9) rfl dX12_copyValley_65 ?_
  refine lv_bipush (v := 90) hx hb dX12_copyValley_68 (by decide) ?_
  refine lv_iload_n hx hb dX12_copyValley_70 rfl (lv_at hl 1 rfl) ?_
  refine lv_iload_n hx hb dX12_copyValley_71 rfl (lv_at hl 2 rfl) ?_
  have hPc := hP.sub (ws' := [(m22, .inl (k22, 450, .inl (fun _ => 0)))]) [1] rfl
  have hKc := hK.sub (tys' := [(k22, .int)]) [0] rfl
  have hDc := hD.sub (ws' := [(m22, .inl (k22, 450, .inl (fun _ => 0)))]) [1] (by decide) rfl
  have hFc := va_free (wc := [(m22, .inl (k22, 450, .inl (fun _ => 0)))]) hD hS hA [1] rfl
  refine va_callv (va_runS (As := [.ref m22, .int 90, .int 0, .int 2]) (rest := []) ⟨hx, hb, hml, hown, hts⟩ (f_X12_copyRow_act_02 l dC dI H.size m22 k22) (va_cwS 4 hts (gk_S (wl_mem 1 rfl) (wl_mem 2 rfl) (wl_mem 3 rfl) (fun w h => List.mem_cons_of_mem _ (List.mem_append_right _ (List.mem_append_right _ (List.mem_append_right _ (List.mem_append_right _ (List.mem_append_right _ (List.mem_append_right _ (List.mem_append_right _ (List.mem_append_right _ (List.mem_append_left _ h)))))))))) wkg_f_X12_copyRow_act_02) rfl rfl rfl (by decide +kernel) ⟨Nat.le_of_ble_eq_true rfl, Nat.le_of_ble_eq_true rfl⟩) ⟨fun a U g mk q => by obtain ⟨q0, q1, qP, qK, qD⟩ := q; exact ⟨q0, q1, qP, va_K.moved (u := U) (U := U.calling g mk a) (Vm.Alike.refl U.vm) qK, qD⟩, fun U hU hW => ⟨rfl, by rw [hU], by rw [hU]; exact hPc, va_K.moved hW.alike hKc, hDc.weaken (fun _ _ _ _ => trivial)⟩⟩ rfl rfl hl.1 rfl (lv_room (Nat.le_of_ble_eq_true rfl)) dX12_copyValley_72 ⟨Nat.le_of_ble_eq_true rfl, Nat.le_of_ble_eq_true rfl⟩) hS (fun q _ h => hFc q h) hFc (fun u t H1 locs ht hvm hz13 hB hz1 hk1 hS => ?_)
  obtain ⟨hP1, hK1, hD1⟩ := hB
  rw [ht] at hP1
  have hK1 := va_K.moved hvm.symm hK1
  obtain ⟨hP, hD⟩ := va_join (wr := [(h0, .inr (12, [.int 0, .ref m1, .ref m2, .ref m3, .ref m4, .ref m5, .int 0, .int 0, .int 0, .int 0, .int 0, .long 0, .int 0, .int bp, .int 0, .int (-1), .ref m16, .ref m17, .ref m18, .ref m19, .ref m20, .ref m21, .ref m22, .ref m23, .int 0, .int 0, .int 0, .ref m27, .ref m28, .ref m29, .ref m30, .ref m31, .ref m32, .ref m33, .ref m34, .ref m35, .ref m36, .ref m37, .ref m38, .ref m39, .ref m40, .ref m41, .ref m42, .int 0, .int 0, .int 0, .ref m46, .int 0, .int 0, .int 0, .int 0, .int 0, .int 0, .ref m53, .int 0, .int 0, .int 0, .ref m57, .ref m58])), (m16, .inl (k16, 5, .inl (fun _ => 0))), (m17, .inl (k17, 40, .inl (fun _ => 0))), (m18, .inl (k18, 30, .inl (fun _ => 0))), (m19, .inl (k19, 70, .inl (fun _ => 0))), (m20, .inl (k20, 75, .inl (fun _ => 0))), (m21, .inl (k21, 20, .inl (fun _ => 0)))]) (w1 := [(m22, .inl (k22, 450, .inl (fun _ => 0)))]) hP hD [1] [0, 2, 3, 4, 5, 6, 7] rfl rfl (by decide) (by decide) hk1 hFc hP1 hD1
  have hK := (hK.sub (tys' := [(k16, .int), (k17, .int), (k18, .int), (k19, .int), (k20, .int), (k21, .int)]) [1, 2, 3, 4, 5, 6] rfl).app hK1
  generalize H1 = H at hP hS ⊢
  have hK : va_K (dC, dI) vwCl [(k16, .int), (k17, .int), (k18, .int), (k19, .int), (k20, .int), (k21, .int), (k22, .int)] s := hK
  have hP : va_P (dC, dI) vwCl [(h0, .inr (12, [.int 0, .ref m1, .ref m2, .ref m3, .ref m4, .ref m5, .int 0, .int 0, .int 0, .int 0, .int 0, .long 0, .int 0, .int bp, .int 0, .int (-1), .ref m16, .ref m17, .ref m18, .ref m19, .ref m20, .ref m21, .ref m22, .ref m23, .int 0, .int 0, .int 0, .ref m27, .ref m28, .ref m29, .ref m30, .ref m31, .ref m32, .ref m33, .ref m34, .ref m35, .ref m36, .ref m37, .ref m38, .ref m39, .ref m40, .ref m41, .ref m42, .int 0, .int 0, .int 0, .ref m46, .int 0, .int 0, .int 0, .int 0, .int 0, .int 0, .ref m53, .int 0, .int 0, .int 0, .ref m57, .ref m58])), (m16, .inl (k16, 5, .inl (fun _ => 0))), (m17, .inl (k17, 40, .inl (fun _ => 0))), (m18, .inl (k18, 30, .inl (fun _ => 0))), (m19, .inl (k19, 70, .inl (fun _ => 0))), (m20, .inl (k20, 75, .inl (fun _ => 0))), (m21, .inl (k21, 20, .inl (fun _ => 0))), (m22, .inl (k22, 450, .inl (fun _ => 0)))] H := hP
  have hD : va_D A [(h0, .inr (12, [.int 0, .ref m1, .ref m2, .ref m3, .ref m4, .ref m5, .int 0, .int 0, .int 0, .int 0, .int 0, .long 0, .int 0, .int bp, .int 0, .int (-1), .ref m16, .ref m17, .ref m18, .ref m19, .ref m20, .ref m21, .ref m22, .ref m23, .int 0, .int 0, .int 0, .ref m27, .ref m28, .ref m29, .ref m30, .ref m31, .ref m32, .ref m33, .ref m34, .ref m35, .ref m36, .ref m37, .ref m38, .ref m39, .ref m40, .ref m41, .ref m42, .int 0, .int 0, .int 0, .ref m46, .int 0, .int 0, .int 0, .int 0, .int 0, .int 0, .ref m53, .int 0, .int 0, .int 0, .ref m57, .ref m58])), (m16, .inl (k16, 5, .inl (fun _ => 0))), (m17, .inl (k17, 40, .inl (fun _ => 0))), (m18, .inl (k18, 30, .inl (fun _ => 0))), (m19, .inl (k19, 70, .inl (fun _ => 0))), (m20, .inl (k20, 75, .inl (fun _ => 0))), (m21, .inl (k21, 20, .inl (fun _ => 0))), (m22, .inl (k22, 450, .inl (fun _ => 0)))] := hD
  refine W.widen (k := 0) (n := 0) (Nat.le_of_ble_eq_true rfl) (Nat.le_of_ble_eq_true rfl) ?_
  have hP9 := hP.sub (ws' := [(h0, .inr (12, [.int 0, .ref m1, .ref m2, .ref m3, .ref m4, .ref m5, .int 0, .int 0, .int 0, .int 0, .int 0, .long 0, .int 0, .int bp, .int 0, .int (-1), .ref m16, .ref m17, .ref m18, .ref m19, .ref m20, .ref m21, .ref m22, .ref m23, .int 0, .int 0, .int 0, .ref m27, .ref m28, .ref m29, .ref m30, .ref m31, .ref m32, .ref m33, .ref m34, .ref m35, .ref m36, .ref m37, .ref m38, .ref m39, .ref m40, .ref m41, .ref m42, .int 0, .int 0, .int 0, .ref m46, .int 0, .int 0, .int 0, .int 0, .int 0, .int 0, .ref m53, .int 0, .int 0, .int 0, .ref m57, .ref m58])), (m16, .inl (k16, 5, .inl (fun _ => 0))), (m17, .inl (k17, 40, .inl (fun _ => 0))), (m18, .inl (k18, 30, .inl (fun _ => 0))), (m19, .inl (k19, 70, .inl (fun _ => 0))), (m20, .inl (k20, 75, .inl (fun _ => 0))), (m21, .inl (k21, 20, .inl (fun _ => 0))), (m22, .inl (k22, 450, .inl (fun _ => 0)))]) [0, 1, 2, 3, 4, 5, 6, 7] rfl
  have hD9 := hD.sub (ws' := [(h0, .inr (12, [.int 0, .ref m1, .ref m2, .ref m3, .ref m4, .ref m5, .int 0, .int 0, .int 0, .int 0, .int 0, .long 0, .int 0, .int bp, .int 0, .int (-1), .ref m16, .ref m17, .ref m18, .ref m19, .ref m20, .ref m21, .ref m22, .ref m23, .int 0, .int 0, .int 0, .ref m27, .ref m28, .ref m29, .ref m30, .ref m31, .ref m32, .ref m33, .ref m34, .ref m35, .ref m36, .ref m37, .ref m38, .ref m39, .ref m40, .ref m41, .ref m42, .int 0, .int 0, .int 0, .ref m46, .int 0, .int 0, .int 0, .int 0, .int 0, .int 0, .ref m53, .int 0, .int 0, .int 0, .ref m57, .ref m58])), (m16, .inl (k16, 5, .inl (fun _ => 0))), (m17, .inl (k17, 40, .inl (fun _ => 0))), (m18, .inl (k18, 30, .inl (fun _ => 0))), (m19, .inl (k19, 70, .inl (fun _ => 0))), (m20, .inl (k20, 75, .inl (fun _ => 0))), (m21, .inl (k21, 20, .inl (fun _ => 0))), (m22, .inl (k22, 450, .inl (fun _ => 0)))]) [0, 1, 2, 3, 4, 5, 6, 7] (by decide) rfl
  have hK9 := hK.sub (tys' := [(k16, .int), (k17, .int), (k18, .int), (k19, .int), (k20, .int), (k21, .int), (k22, .int)]) [0, 1, 2, 3, 4, 5, 6] rfl
  exact W.vret hx hb hr (fun t ht hW => ⟨⟨(), rfl, trivial, by rw [ht]; exact hP9, va_K.moved hW.alike hK9, hD9⟩, hS.F ht⟩) hS.2.2 dX12_copyValley_75
def wk_f_X12_copyValley_03 : List Cond := .code yX12_copyValley cX12_copyValley 3 none :: ([.fieldLink RX12 31 "SagMemoryModel" "lines" "[I", .methodLink RX12 279 yX12_copyRow, .static yX12_copyRow, .initialized RX12, .fieldLink RX12 34 "SagMemoryModel" "has" "[I", .fieldLink RX12 37 "SagMemoryModel" "bridge" "[I", .fieldLink RX12 40 "SagMemoryModel" "cart" "[I", .fieldLink RX12 43 "SagMemoryModel" "ward" "[I", .fieldLink RX12 46 "SagMemoryModel" "frostAt" "[I", .fieldLink RX12 49 "SagMemoryModel" "act" "[I"] ++ (wsX120 ++ (wk_f_X12_copyRow_lines_03 ++ (wk_f_X12_copyRow_has_03 ++ (wk_f_X12_copyRow_bridge_03 ++ (wk_f_X12_copyRow_cart_03 ++ (wk_f_X12_copyRow_ward_03 ++ (wk_f_X12_copyRow_frostAt_03 ++ (wk_f_X12_copyRow_act_03 ++ [])))))))))
theorem wkg_f_X12_copyValley_03 : wk_f_X12_copyValley_03.all goodWord = true := by decide +kernel
set_option maxHeartbeats 4000000 in
set_option maxRecDepth 100000 in
theorem f_X12_copyValley_03 (l : Launch) (dC : Nat → ClassId) (dI : Nat → Nat → Nat) (sz : Nat) (h0 : Nat) (m1 : Nat) (m2 : Nat) (m3 : Nat) (m4 : Nat) (m5 : Nat) (m16 : Nat) (m17 : Nat) (m18 : Nat) (m19 : Nat) (m20 : Nat) (m21 : Nat) (m22 : Nat) (m23 : Nat) (m27 : Nat) (m28 : Nat) (m29 : Nat) (m30 : Nat) (m31 : Nat) (m32 : Nat) (m33 : Nat) (m34 : Nat) (m35 : Nat) (m36 : Nat) (m37 : Nat) (m38 : Nat) (m39 : Nat) (m40 : Nat) (m41 : Nat) (m42 : Nat) (m46 : Nat) (m53 : Nat) (m57 : Nat) (m58 : Nat) (k16 : ClassId) (k17 : ClassId) (k18 : ClassId) (k19 : ClassId) (k20 : ClassId) (k21 : ClassId) (k22 : ClassId) (bp : Int32) : Met l yX12_copyValley wk_f_X12_copyValley_03 ({ frames := 1, cells := 0, slots := 0, locals := 24 }) (va_Pc [.ref h0, .int 0, .int 3] (fun U => U.heap.size = sz ∧ va_P (dC, dI) vwCl [(h0, .inr (12, [.int 0, .ref m1, .ref m2, .ref m3, .ref m4, .ref m5, .int 0, .int 0, .int 0, .int 0, .int 0, .long 0, .int 0, .int bp, .int 0, .int (-1), .ref m16, .ref m17, .ref m18, .ref m19, .ref m20, .ref m21, .ref m22, .ref m23, .int 0, .int 0, .int 0, .ref m27, .ref m28, .ref m29, .ref m30, .ref m31, .ref m32, .ref m33, .ref m34, .ref m35, .ref m36, .ref m37, .ref m38, .ref m39, .ref m40, .ref m41, .ref m42, .int 0, .int 0, .int 0, .ref m46, .int 0, .int 0, .int 0, .int 0, .int 0, .int 0, .ref m53, .int 0, .int 0, .int 0, .ref m57, .ref m58])), (m16, .inl (k16, 5, .inl (fun _ => 0))), (m17, .inl (k17, 40, .inl (fun _ => 0))), (m18, .inl (k18, 30, .inl (fun _ => 0))), (m19, .inl (k19, 70, .inl (fun _ => 0))), (m20, .inl (k20, 75, .inl (fun _ => 0))), (m21, .inl (k21, 20, .inl (fun _ => 0))), (m22, .inl (k22, 450, .inl (fun _ => 0)))] U.heap ∧ va_K (dC, dI) vwCl [(k16, .int), (k17, .int), (k18, .int), (k19, .int), (k20, .int), (k21, .int), (k22, .int)] U ∧ va_D (fun _ => True) [(h0, .inr (12, [.int 0, .ref m1, .ref m2, .ref m3, .ref m4, .ref m5, .int 0, .int 0, .int 0, .int 0, .int 0, .long 0, .int 0, .int bp, .int 0, .int (-1), .ref m16, .ref m17, .ref m18, .ref m19, .ref m20, .ref m21, .ref m22, .ref m23, .int 0, .int 0, .int 0, .ref m27, .ref m28, .ref m29, .ref m30, .ref m31, .ref m32, .ref m33, .ref m34, .ref m35, .ref m36, .ref m37, .ref m38, .ref m39, .ref m40, .ref m41, .ref m42, .int 0, .int 0, .int 0, .ref m46, .int 0, .int 0, .int 0, .int 0, .int 0, .int 0, .ref m53, .int 0, .int 0, .int 0, .ref m57, .ref m58])), (m16, .inl (k16, 5, .inl (fun _ => 0))), (m17, .inl (k17, 40, .inl (fun _ => 0))), (m18, .inl (k18, 30, .inl (fun _ => 0))), (m19, .inl (k19, 70, .inl (fun _ => 0))), (m20, .inl (k20, 75, .inl (fun _ => 0))), (m21, .inl (k21, 20, .inl (fun _ => 0))), (m22, .inl (k22, 450, .inl (fun _ => 0)))])) (va_Qv (fun _ : Unit => True) (fun (_ : Unit) (t : State) => va_P (dC, dI) vwCl [(h0, .inr (12, [.int 0, .ref m1, .ref m2, .ref m3, .ref m4, .ref m5, .int 0, .int 0, .int 0, .int 0, .int 0, .long 0, .int 0, .int bp, .int 0, .int (-1), .ref m16, .ref m17, .ref m18, .ref m19, .ref m20, .ref m21, .ref m22, .ref m23, .int 0, .int 0, .int 0, .ref m27, .ref m28, .ref m29, .ref m30, .ref m31, .ref m32, .ref m33, .ref m34, .ref m35, .ref m36, .ref m37, .ref m38, .ref m39, .ref m40, .ref m41, .ref m42, .int 0, .int 0, .int 0, .ref m46, .int 0, .int 0, .int 0, .int 0, .int 0, .int 0, .ref m53, .int 0, .int 0, .int 0, .ref m57, .ref m58])), (m16, .inl (k16, 5, .inl (fun _ => 0))), (m17, .inl (k17, 40, .inl (fun _ => 0))), (m18, .inl (k18, 30, .inl (fun _ => 0))), (m19, .inl (k19, 70, .inl (fun _ => 0))), (m20, .inl (k20, 75, .inl (fun _ => 0))), (m21, .inl (k21, 20, .inl (fun _ => 0))), (m22, .inl (k22, 450, .inl (fun _ => 0)))] t.heap ∧ va_K (dC, dI) vwCl [(k16, .int), (k17, .int), (k18, .int), (k19, .int), (k20, .int), (k21, .int), (k22, .int)] t ∧ va_D (va_A [(h0, .inr (12, [.int 0, .ref m1, .ref m2, .ref m3, .ref m4, .ref m5, .int 0, .int 0, .int 0, .int 0, .int 0, .long 0, .int 0, .int bp, .int 0, .int (-1), .ref m16, .ref m17, .ref m18, .ref m19, .ref m20, .ref m21, .ref m22, .ref m23, .int 0, .int 0, .int 0, .ref m27, .ref m28, .ref m29, .ref m30, .ref m31, .ref m32, .ref m33, .ref m34, .ref m35, .ref m36, .ref m37, .ref m38, .ref m39, .ref m40, .ref m41, .ref m42, .int 0, .int 0, .int 0, .ref m46, .int 0, .int 0, .int 0, .int 0, .int 0, .int 0, .ref m53, .int 0, .int 0, .int 0, .ref m57, .ref m58])), (m16, .inl (k16, 5, .inl (fun _ => 0))), (m17, .inl (k17, 40, .inl (fun _ => 0))), (m18, .inl (k18, 30, .inl (fun _ => 0))), (m19, .inl (k19, 70, .inl (fun _ => 0))), (m20, .inl (k20, 75, .inl (fun _ => 0))), (m21, .inl (k21, 20, .inl (fun _ => 0))), (m22, .inl (k22, 450, .inl (fun _ => 0)))] sz) [(h0, .inr (12, [.int 0, .ref m1, .ref m2, .ref m3, .ref m4, .ref m5, .int 0, .int 0, .int 0, .int 0, .int 0, .long 0, .int 0, .int bp, .int 0, .int (-1), .ref m16, .ref m17, .ref m18, .ref m19, .ref m20, .ref m21, .ref m22, .ref m23, .int 0, .int 0, .int 0, .ref m27, .ref m28, .ref m29, .ref m30, .ref m31, .ref m32, .ref m33, .ref m34, .ref m35, .ref m36, .ref m37, .ref m38, .ref m39, .ref m40, .ref m41, .ref m42, .int 0, .int 0, .int 0, .ref m46, .int 0, .int 0, .int 0, .int 0, .int 0, .int 0, .ref m53, .int 0, .int 0, .int 0, .ref m57, .ref m58])), (m16, .inl (k16, 5, .inl (fun _ => 0))), (m17, .inl (k17, 40, .inl (fun _ => 0))), (m18, .inl (k18, 30, .inl (fun _ => 0))), (m19, .inl (k19, 70, .inl (fun _ => 0))), (m20, .inl (k20, 75, .inl (fun _ => 0))), (m21, .inl (k21, 20, .inl (fun _ => 0))), (m22, .inl (k22, 450, .inl (fun _ => 0)))]) (va_A [(h0, .inr (12, [.int 0, .ref m1, .ref m2, .ref m3, .ref m4, .ref m5, .int 0, .int 0, .int 0, .int 0, .int 0, .long 0, .int 0, .int bp, .int 0, .int (-1), .ref m16, .ref m17, .ref m18, .ref m19, .ref m20, .ref m21, .ref m22, .ref m23, .int 0, .int 0, .int 0, .ref m27, .ref m28, .ref m29, .ref m30, .ref m31, .ref m32, .ref m33, .ref m34, .ref m35, .ref m36, .ref m37, .ref m38, .ref m39, .ref m40, .ref m41, .ref m42, .int 0, .int 0, .int 0, .ref m46, .int 0, .int 0, .int 0, .int 0, .int 0, .int 0, .ref m53, .int 0, .int 0, .int 0, .ref m57, .ref m58])), (m16, .inl (k16, 5, .inl (fun _ => 0))), (m17, .inl (k17, 40, .inl (fun _ => 0))), (m18, .inl (k18, 30, .inl (fun _ => 0))), (m19, .inl (k19, 70, .inl (fun _ => 0))), (m20, .inl (k20, 75, .inl (fun _ => 0))), (m21, .inl (k21, 20, .inl (fun _ => 0))), (m22, .inl (k22, 450, .inl (fun _ => 0)))] sz)) 0 0 (va_A [(h0, .inr (12, [.int 0, .ref m1, .ref m2, .ref m3, .ref m4, .ref m5, .int 0, .int 0, .int 0, .int 0, .int 0, .long 0, .int 0, .int bp, .int 0, .int (-1), .ref m16, .ref m17, .ref m18, .ref m19, .ref m20, .ref m21, .ref m22, .ref m23, .int 0, .int 0, .int 0, .ref m27, .ref m28, .ref m29, .ref m30, .ref m31, .ref m32, .ref m33, .ref m34, .ref m35, .ref m36, .ref m37, .ref m38, .ref m39, .ref m40, .ref m41, .ref m42, .int 0, .int 0, .int 0, .ref m46, .int 0, .int 0, .int 0, .int 0, .int 0, .int 0, .ref m53, .int 0, .int 0, .int 0, .ref m57, .ref m58])), (m16, .inl (k16, 5, .inl (fun _ => 0))), (m17, .inl (k17, 40, .inl (fun _ => 0))), (m18, .inl (k18, 30, .inl (fun _ => 0))), (m19, .inl (k19, 70, .inl (fun _ => 0))), (m20, .inl (k20, 75, .inl (fun _ => 0))), (m21, .inl (k21, 20, .inl (fun _ => 0))), (m22, .inl (k22, 450, .inl (fun _ => 0)))] sz) := by
  refine Met.ofW (cc := cX12_copyValley) (maxL := 3) (ret := none) (by decide) rfl ?_
  intro p e s m args below meth c s₁ B hml hv
  obtain ⟨rfl, hsz, hP, hK, hD0⟩ := hv
  have hx := B.exec
  have hb := B.bytes
  have hr := B.returns
  have hts := atoms_spec (ws := wk_f_X12_copyValley_03) B.pre
  have hown : s.vm.findClass RX12 = some m.cls := findClass_of_methodNamed B.named
  have hlocks := B.notSynchronized
  subst hsz
  have hD := hD0.self (sz := s.heap.size)
  generalize hAe : va_A [(h0, .inr (12, [.int 0, .ref m1, .ref m2, .ref m3, .ref m4, .ref m5, .int 0, .int 0, .int 0, .int 0, .int 0, .long 0, .int 0, .int bp, .int 0, .int (-1), .ref m16, .ref m17, .ref m18, .ref m19, .ref m20, .ref m21, .ref m22, .ref m23, .int 0, .int 0, .int 0, .ref m27, .ref m28, .ref m29, .ref m30, .ref m31, .ref m32, .ref m33, .ref m34, .ref m35, .ref m36, .ref m37, .ref m38, .ref m39, .ref m40, .ref m41, .ref m42, .int 0, .int 0, .int 0, .ref m46, .int 0, .int 0, .int 0, .int 0, .int 0, .int 0, .ref m53, .int 0, .int 0, .int 0, .ref m57, .ref m58])), (m16, .inl (k16, 5, .inl (fun _ => 0))), (m17, .inl (k17, 40, .inl (fun _ => 0))), (m18, .inl (k18, 30, .inl (fun _ => 0))), (m19, .inl (k19, 70, .inl (fun _ => 0))), (m20, .inl (k20, 75, .inl (fun _ => 0))), (m21, .inl (k21, 20, .inl (fun _ => 0))), (m22, .inl (k22, 450, .inl (fun _ => 0)))] s.heap.size = A at hD ⊢
  have hA : ∀ q : Nat, s.heap.size ≤ q → A q := fun q h => by rw [← hAe]; exact Or.inr h
  have hS : va_S A s.heap s.heap [] := va_S.rf
  have hP : va_P (dC, dI) vwCl [(h0, .inr (12, [.int 0, .ref m1, .ref m2, .ref m3, .ref m4, .ref m5, .int 0, .int 0, .int 0, .int 0, .int 0, .long 0, .int 0, .int bp, .int 0, .int (-1), .ref m16, .ref m17, .ref m18, .ref m19, .ref m20, .ref m21, .ref m22, .ref m23, .int 0, .int 0, .int 0, .ref m27, .ref m28, .ref m29, .ref m30, .ref m31, .ref m32, .ref m33, .ref m34, .ref m35, .ref m36, .ref m37, .ref m38, .ref m39, .ref m40, .ref m41, .ref m42, .int 0, .int 0, .int 0, .ref m46, .int 0, .int 0, .int 0, .int 0, .int 0, .int 0, .ref m53, .int 0, .int 0, .int 0, .ref m57, .ref m58])), (m16, .inl (k16, 5, .inl (fun _ => 0))), (m17, .inl (k17, 40, .inl (fun _ => 0))), (m18, .inl (k18, 30, .inl (fun _ => 0))), (m19, .inl (k19, 70, .inl (fun _ => 0))), (m20, .inl (k20, 75, .inl (fun _ => 0))), (m21, .inl (k21, 20, .inl (fun _ => 0))), (m22, .inl (k22, 450, .inl (fun _ => 0)))] s.heap := hP
  have hl := lv_entry ([.ref h0, .int 0, .int 3]) (n := 3) (Nat.le_of_ble_eq_true rfl)
  rw [lg_entry_eq]
  generalize (lg_sl ([.ref h0, .int 0, .int 3]) ++ List.replicate (3 - (lg_sl ([.ref h0, .int 0, .int 3])).length) Slot.unset).toArray = ls at hl ⊢
  have hl : lv_has ls 3 [(0, .ref h0), (1, .int 0), (2, .int 3)] := hl
  refine lv_aload_n hx hb dX12_copyValley_0 rfl (lv_at hl 0 rfl) ?_
  refine va_get (D := (dC, dI)) (ci := 12) (v := .ref m16) (C := RX12) (T := TX12) (N := 59) hx hb hts (fun w h => List.mem_cons_of_mem _ (List.mem_append_right _ (List.mem_append_left _ h))) hown hK hP 0 rfl rfl 16 (by decide) (hts (.fieldLink RX12 31 "SagMemoryModel" "lines" "[I") (wl_mem 0 rfl)) (fun _ h9 => h9) rfl dX12_copyValley_1 ?_
  refine lv_iconst (v := 1) hx hb dX12_copyValley_4 (by decide) ?_
  refine lv_iload_n hx hb dX12_copyValley_5 rfl (lv_at hl 1 rfl) ?_
  refine lv_iload_n hx hb dX12_copyValley_6 rfl (lv_at hl 2 rfl) ?_
  have hPc := hP.sub (ws' := [(m16, .inl (k16, 5, .inl (fun _ => 0)))]) [1] rfl
  have hKc := hK.sub (tys' := [(k16, .int)]) [0] rfl
  have hDc := hD.sub (ws' := [(m16, .inl (k16, 5, .inl (fun _ => 0)))]) [1] (by decide) rfl
  have hFc := va_free (wc := [(m16, .inl (k16, 5, .inl (fun _ => 0)))]) hD hS hA [1] rfl
  refine va_callv (va_runS (As := [.ref m16, .int 1, .int 0, .int 3]) (rest := []) ⟨hx, hb, hml, hown, hts⟩ (f_X12_copyRow_lines_03 l dC dI s.heap.size m16 k16) (va_cwS 4 hts (gk_S (wl_mem 1 rfl) (wl_mem 2 rfl) (wl_mem 3 rfl) (fun w h => List.mem_cons_of_mem _ (List.mem_append_right _ (List.mem_append_right _ (List.mem_append_left _ h)))) wkg_f_X12_copyRow_lines_03) rfl rfl rfl (by decide +kernel) ⟨Nat.le_of_ble_eq_true rfl, Nat.le_of_ble_eq_true rfl⟩) ⟨fun a U g mk q => by obtain ⟨q0, q1, qP, qK, qD⟩ := q; exact ⟨q0, q1, qP, va_K.moved (u := U) (U := U.calling g mk a) (Vm.Alike.refl U.vm) qK, qD⟩, fun U hU hW => ⟨rfl, by rw [hU], by rw [hU]; exact hPc, va_K.moved hW.alike hKc, hDc.weaken (fun _ _ _ _ => trivial)⟩⟩ rfl rfl hl.1 rfl (lv_room (Nat.le_of_ble_eq_true rfl)) dX12_copyValley_7 ⟨Nat.le_of_ble_eq_true rfl, Nat.le_of_ble_eq_true rfl⟩) hS (fun q _ h => hFc q h) hFc (fun u t H1 locs ht hvm hz1 hB hz1 hk1 hS => ?_)
  obtain ⟨hP1, hK1, hD1⟩ := hB
  rw [ht] at hP1
  have hK1 := va_K.moved hvm.symm hK1
  obtain ⟨hP, hD⟩ := va_join (wr := [(h0, .inr (12, [.int 0, .ref m1, .ref m2, .ref m3, .ref m4, .ref m5, .int 0, .int 0, .int 0, .int 0, .int 0, .long 0, .int 0, .int bp, .int 0, .int (-1), .ref m16, .ref m17, .ref m18, .ref m19, .ref m20, .ref m21, .ref m22, .ref m23, .int 0, .int 0, .int 0, .ref m27, .ref m28, .ref m29, .ref m30, .ref m31, .ref m32, .ref m33, .ref m34, .ref m35, .ref m36, .ref m37, .ref m38, .ref m39, .ref m40, .ref m41, .ref m42, .int 0, .int 0, .int 0, .ref m46, .int 0, .int 0, .int 0, .int 0, .int 0, .int 0, .ref m53, .int 0, .int 0, .int 0, .ref m57, .ref m58])), (m17, .inl (k17, 40, .inl (fun _ => 0))), (m18, .inl (k18, 30, .inl (fun _ => 0))), (m19, .inl (k19, 70, .inl (fun _ => 0))), (m20, .inl (k20, 75, .inl (fun _ => 0))), (m21, .inl (k21, 20, .inl (fun _ => 0))), (m22, .inl (k22, 450, .inl (fun _ => 0)))]) (w1 := [(m16, .inl (k16, 5, .inl (fun _ => 0)))]) hP hD [1] [0, 2, 3, 4, 5, 6, 7] rfl rfl (by decide) (by decide) hk1 hFc hP1 hD1
  have hK := (hK.sub (tys' := [(k17, .int), (k18, .int), (k19, .int), (k20, .int), (k21, .int), (k22, .int)]) [1, 2, 3, 4, 5, 6] rfl).app hK1
  generalize H1 = H at hP hS ⊢
  have hK : va_K (dC, dI) vwCl [(k17, .int), (k18, .int), (k19, .int), (k20, .int), (k21, .int), (k22, .int), (k16, .int)] s := hK
  have hP : va_P (dC, dI) vwCl [(h0, .inr (12, [.int 0, .ref m1, .ref m2, .ref m3, .ref m4, .ref m5, .int 0, .int 0, .int 0, .int 0, .int 0, .long 0, .int 0, .int bp, .int 0, .int (-1), .ref m16, .ref m17, .ref m18, .ref m19, .ref m20, .ref m21, .ref m22, .ref m23, .int 0, .int 0, .int 0, .ref m27, .ref m28, .ref m29, .ref m30, .ref m31, .ref m32, .ref m33, .ref m34, .ref m35, .ref m36, .ref m37, .ref m38, .ref m39, .ref m40, .ref m41, .ref m42, .int 0, .int 0, .int 0, .ref m46, .int 0, .int 0, .int 0, .int 0, .int 0, .int 0, .ref m53, .int 0, .int 0, .int 0, .ref m57, .ref m58])), (m17, .inl (k17, 40, .inl (fun _ => 0))), (m18, .inl (k18, 30, .inl (fun _ => 0))), (m19, .inl (k19, 70, .inl (fun _ => 0))), (m20, .inl (k20, 75, .inl (fun _ => 0))), (m21, .inl (k21, 20, .inl (fun _ => 0))), (m22, .inl (k22, 450, .inl (fun _ => 0))), (m16, .inl (k16, 5, .inl (fun _ => 0)))] H := hP
  have hD : va_D A [(h0, .inr (12, [.int 0, .ref m1, .ref m2, .ref m3, .ref m4, .ref m5, .int 0, .int 0, .int 0, .int 0, .int 0, .long 0, .int 0, .int bp, .int 0, .int (-1), .ref m16, .ref m17, .ref m18, .ref m19, .ref m20, .ref m21, .ref m22, .ref m23, .int 0, .int 0, .int 0, .ref m27, .ref m28, .ref m29, .ref m30, .ref m31, .ref m32, .ref m33, .ref m34, .ref m35, .ref m36, .ref m37, .ref m38, .ref m39, .ref m40, .ref m41, .ref m42, .int 0, .int 0, .int 0, .ref m46, .int 0, .int 0, .int 0, .int 0, .int 0, .int 0, .ref m53, .int 0, .int 0, .int 0, .ref m57, .ref m58])), (m17, .inl (k17, 40, .inl (fun _ => 0))), (m18, .inl (k18, 30, .inl (fun _ => 0))), (m19, .inl (k19, 70, .inl (fun _ => 0))), (m20, .inl (k20, 75, .inl (fun _ => 0))), (m21, .inl (k21, 20, .inl (fun _ => 0))), (m22, .inl (k22, 450, .inl (fun _ => 0))), (m16, .inl (k16, 5, .inl (fun _ => 0)))] := hD
  refine W.widen (k := 0) (n := 0) (Nat.le_of_ble_eq_true rfl) (Nat.le_of_ble_eq_true rfl) ?_
  refine lv_aload_n hx hb dX12_copyValley_10 rfl (lv_at hl 0 rfl) ?_
  refine va_get (D := (dC, dI)) (ci := 12) (v := .ref m17) (C := RX12) (T := TX12) (N := 59) hx hb hts (fun w h => List.mem_cons_of_mem _ (List.mem_append_right _ (List.mem_append_left _ h))) hown hK hP 0 rfl rfl 17 (by decide) (hts (.fieldLink RX12 34 "SagMemoryModel" "has" "[I") (wl_mem 4 rfl)) (fun _ h9 => h9) rfl dX12_copyValley_11 ?_
  refine lv_bipush (v := 8) hx hb dX12_copyValley_14 (by decide) ?_
  refine lv_iload_n hx hb dX12_copyValley_16 rfl (lv_at hl 1 rfl) ?_
  refine lv_iload_n hx hb dX12_copyValley_17 rfl (lv_at hl 2 rfl) ?_
  have hPc := hP.sub (ws' := [(m17, .inl (k17, 40, .inl (fun _ => 0)))]) [1] rfl
  have hKc := hK.sub (tys' := [(k17, .int)]) [0] rfl
  have hDc := hD.sub (ws' := [(m17, .inl (k17, 40, .inl (fun _ => 0)))]) [1] (by decide) rfl
  have hFc := va_free (wc := [(m17, .inl (k17, 40, .inl (fun _ => 0)))]) hD hS hA [1] rfl
  refine va_callv (va_runS (As := [.ref m17, .int 8, .int 0, .int 3]) (rest := []) ⟨hx, hb, hml, hown, hts⟩ (f_X12_copyRow_has_03 l dC dI H.size m17 k17) (va_cwS 4 hts (gk_S (wl_mem 1 rfl) (wl_mem 2 rfl) (wl_mem 3 rfl) (fun w h => List.mem_cons_of_mem _ (List.mem_append_right _ (List.mem_append_right _ (List.mem_append_right _ (List.mem_append_left _ h))))) wkg_f_X12_copyRow_has_03) rfl rfl rfl (by decide +kernel) ⟨Nat.le_of_ble_eq_true rfl, Nat.le_of_ble_eq_true rfl⟩) ⟨fun a U g mk q => by obtain ⟨q0, q1, qP, qK, qD⟩ := q; exact ⟨q0, q1, qP, va_K.moved (u := U) (U := U.calling g mk a) (Vm.Alike.refl U.vm) qK, qD⟩, fun U hU hW => ⟨rfl, by rw [hU], by rw [hU]; exact hPc, va_K.moved hW.alike hKc, hDc.weaken (fun _ _ _ _ => trivial)⟩⟩ rfl rfl hl.1 rfl (lv_room (Nat.le_of_ble_eq_true rfl)) dX12_copyValley_18 ⟨Nat.le_of_ble_eq_true rfl, Nat.le_of_ble_eq_true rfl⟩) hS (fun q _ h => hFc q h) hFc (fun u t H1 locs ht hvm hz3 hB hz1 hk1 hS => ?_)
  obtain ⟨hP1, hK1, hD1⟩ := hB
  rw [ht] at hP1
  have hK1 := va_K.moved hvm.symm hK1
  obtain ⟨hP, hD⟩ := va_join (wr := [(h0, .inr (12, [.int 0, .ref m1, .ref m2, .ref m3, .ref m4, .ref m5, .int 0, .int 0, .int 0, .int 0, .int 0, .long 0, .int 0, .int bp, .int 0, .int (-1), .ref m16, .ref m17, .ref m18, .ref m19, .ref m20, .ref m21, .ref m22, .ref m23, .int 0, .int 0, .int 0, .ref m27, .ref m28, .ref m29, .ref m30, .ref m31, .ref m32, .ref m33, .ref m34, .ref m35, .ref m36, .ref m37, .ref m38, .ref m39, .ref m40, .ref m41, .ref m42, .int 0, .int 0, .int 0, .ref m46, .int 0, .int 0, .int 0, .int 0, .int 0, .int 0, .ref m53, .int 0, .int 0, .int 0, .ref m57, .ref m58])), (m18, .inl (k18, 30, .inl (fun _ => 0))), (m19, .inl (k19, 70, .inl (fun _ => 0))), (m20, .inl (k20, 75, .inl (fun _ => 0))), (m21, .inl (k21, 20, .inl (fun _ => 0))), (m22, .inl (k22, 450, .inl (fun _ => 0))), (m16, .inl (k16, 5, .inl (fun _ => 0)))]) (w1 := [(m17, .inl (k17, 40, .inl (fun _ => 0)))]) hP hD [1] [0, 2, 3, 4, 5, 6, 7] rfl rfl (by decide) (by decide) hk1 hFc hP1 hD1
  have hK := (hK.sub (tys' := [(k18, .int), (k19, .int), (k20, .int), (k21, .int), (k22, .int), (k16, .int)]) [1, 2, 3, 4, 5, 6] rfl).app hK1
  generalize H1 = H at hP hS ⊢
  have hK : va_K (dC, dI) vwCl [(k18, .int), (k19, .int), (k20, .int), (k21, .int), (k22, .int), (k16, .int), (k17, .int)] s := hK
  have hP : va_P (dC, dI) vwCl [(h0, .inr (12, [.int 0, .ref m1, .ref m2, .ref m3, .ref m4, .ref m5, .int 0, .int 0, .int 0, .int 0, .int 0, .long 0, .int 0, .int bp, .int 0, .int (-1), .ref m16, .ref m17, .ref m18, .ref m19, .ref m20, .ref m21, .ref m22, .ref m23, .int 0, .int 0, .int 0, .ref m27, .ref m28, .ref m29, .ref m30, .ref m31, .ref m32, .ref m33, .ref m34, .ref m35, .ref m36, .ref m37, .ref m38, .ref m39, .ref m40, .ref m41, .ref m42, .int 0, .int 0, .int 0, .ref m46, .int 0, .int 0, .int 0, .int 0, .int 0, .int 0, .ref m53, .int 0, .int 0, .int 0, .ref m57, .ref m58])), (m18, .inl (k18, 30, .inl (fun _ => 0))), (m19, .inl (k19, 70, .inl (fun _ => 0))), (m20, .inl (k20, 75, .inl (fun _ => 0))), (m21, .inl (k21, 20, .inl (fun _ => 0))), (m22, .inl (k22, 450, .inl (fun _ => 0))), (m16, .inl (k16, 5, .inl (fun _ => 0))), (m17, .inl (k17, 40, .inl (fun _ => 0)))] H := hP
  have hD : va_D A [(h0, .inr (12, [.int 0, .ref m1, .ref m2, .ref m3, .ref m4, .ref m5, .int 0, .int 0, .int 0, .int 0, .int 0, .long 0, .int 0, .int bp, .int 0, .int (-1), .ref m16, .ref m17, .ref m18, .ref m19, .ref m20, .ref m21, .ref m22, .ref m23, .int 0, .int 0, .int 0, .ref m27, .ref m28, .ref m29, .ref m30, .ref m31, .ref m32, .ref m33, .ref m34, .ref m35, .ref m36, .ref m37, .ref m38, .ref m39, .ref m40, .ref m41, .ref m42, .int 0, .int 0, .int 0, .ref m46, .int 0, .int 0, .int 0, .int 0, .int 0, .int 0, .ref m53, .int 0, .int 0, .int 0, .ref m57, .ref m58])), (m18, .inl (k18, 30, .inl (fun _ => 0))), (m19, .inl (k19, 70, .inl (fun _ => 0))), (m20, .inl (k20, 75, .inl (fun _ => 0))), (m21, .inl (k21, 20, .inl (fun _ => 0))), (m22, .inl (k22, 450, .inl (fun _ => 0))), (m16, .inl (k16, 5, .inl (fun _ => 0))), (m17, .inl (k17, 40, .inl (fun _ => 0)))] := hD
  refine W.widen (k := 0) (n := 0) (Nat.le_of_ble_eq_true rfl) (Nat.le_of_ble_eq_true rfl) ?_
  refine lv_aload_n hx hb dX12_copyValley_21 rfl (lv_at hl 0 rfl) ?_
  refine va_get (D := (dC, dI)) (ci := 12) (v := .ref m18) (C := RX12) (T := TX12) (N := 59) hx hb hts (fun w h => List.mem_cons_of_mem _ (List.mem_append_right _ (List.mem_append_left _ h))) hown hK hP 0 rfl rfl 18 (by decide) (hts (.fieldLink RX12 37 "SagMemoryModel" "bridge" "[I") (wl_mem 5 rfl)) (fun _ h9 => h9) rfl dX12_copyValley_22 ?_
  refine lv_bipush (v := 6) hx hb dX12_copyValley_25 (by decide) ?_
  refine lv_iload_n hx hb dX12_copyValley_27 rfl (lv_at hl 1 rfl) ?_
  refine lv_iload_n hx hb dX12_copyValley_28 rfl (lv_at hl 2 rfl) ?_
  have hPc := hP.sub (ws' := [(m18, .inl (k18, 30, .inl (fun _ => 0)))]) [1] rfl
  have hKc := hK.sub (tys' := [(k18, .int)]) [0] rfl
  have hDc := hD.sub (ws' := [(m18, .inl (k18, 30, .inl (fun _ => 0)))]) [1] (by decide) rfl
  have hFc := va_free (wc := [(m18, .inl (k18, 30, .inl (fun _ => 0)))]) hD hS hA [1] rfl
  refine va_callv (va_runS (As := [.ref m18, .int 6, .int 0, .int 3]) (rest := []) ⟨hx, hb, hml, hown, hts⟩ (f_X12_copyRow_bridge_03 l dC dI H.size m18 k18) (va_cwS 4 hts (gk_S (wl_mem 1 rfl) (wl_mem 2 rfl) (wl_mem 3 rfl) (fun w h => List.mem_cons_of_mem _ (List.mem_append_right _ (List.mem_append_right _ (List.mem_append_right _ (List.mem_append_right _ (List.mem_append_left _ h)))))) wkg_f_X12_copyRow_bridge_03) rfl rfl rfl (by decide +kernel) ⟨Nat.le_of_ble_eq_true rfl, Nat.le_of_ble_eq_true rfl⟩) ⟨fun a U g mk q => by obtain ⟨q0, q1, qP, qK, qD⟩ := q; exact ⟨q0, q1, qP, va_K.moved (u := U) (U := U.calling g mk a) (Vm.Alike.refl U.vm) qK, qD⟩, fun U hU hW => ⟨rfl, by rw [hU], by rw [hU]; exact hPc, va_K.moved hW.alike hKc, hDc.weaken (fun _ _ _ _ => trivial)⟩⟩ rfl rfl hl.1 rfl (lv_room (Nat.le_of_ble_eq_true rfl)) dX12_copyValley_29 ⟨Nat.le_of_ble_eq_true rfl, Nat.le_of_ble_eq_true rfl⟩) hS (fun q _ h => hFc q h) hFc (fun u t H1 locs ht hvm hz5 hB hz1 hk1 hS => ?_)
  obtain ⟨hP1, hK1, hD1⟩ := hB
  rw [ht] at hP1
  have hK1 := va_K.moved hvm.symm hK1
  obtain ⟨hP, hD⟩ := va_join (wr := [(h0, .inr (12, [.int 0, .ref m1, .ref m2, .ref m3, .ref m4, .ref m5, .int 0, .int 0, .int 0, .int 0, .int 0, .long 0, .int 0, .int bp, .int 0, .int (-1), .ref m16, .ref m17, .ref m18, .ref m19, .ref m20, .ref m21, .ref m22, .ref m23, .int 0, .int 0, .int 0, .ref m27, .ref m28, .ref m29, .ref m30, .ref m31, .ref m32, .ref m33, .ref m34, .ref m35, .ref m36, .ref m37, .ref m38, .ref m39, .ref m40, .ref m41, .ref m42, .int 0, .int 0, .int 0, .ref m46, .int 0, .int 0, .int 0, .int 0, .int 0, .int 0, .ref m53, .int 0, .int 0, .int 0, .ref m57, .ref m58])), (m19, .inl (k19, 70, .inl (fun _ => 0))), (m20, .inl (k20, 75, .inl (fun _ => 0))), (m21, .inl (k21, 20, .inl (fun _ => 0))), (m22, .inl (k22, 450, .inl (fun _ => 0))), (m16, .inl (k16, 5, .inl (fun _ => 0))), (m17, .inl (k17, 40, .inl (fun _ => 0)))]) (w1 := [(m18, .inl (k18, 30, .inl (fun _ => 0)))]) hP hD [1] [0, 2, 3, 4, 5, 6, 7] rfl rfl (by decide) (by decide) hk1 hFc hP1 hD1
  have hK := (hK.sub (tys' := [(k19, .int), (k20, .int), (k21, .int), (k22, .int), (k16, .int), (k17, .int)]) [1, 2, 3, 4, 5, 6] rfl).app hK1
  generalize H1 = H at hP hS ⊢
  have hK : va_K (dC, dI) vwCl [(k19, .int), (k20, .int), (k21, .int), (k22, .int), (k16, .int), (k17, .int), (k18, .int)] s := hK
  have hP : va_P (dC, dI) vwCl [(h0, .inr (12, [.int 0, .ref m1, .ref m2, .ref m3, .ref m4, .ref m5, .int 0, .int 0, .int 0, .int 0, .int 0, .long 0, .int 0, .int bp, .int 0, .int (-1), .ref m16, .ref m17, .ref m18, .ref m19, .ref m20, .ref m21, .ref m22, .ref m23, .int 0, .int 0, .int 0, .ref m27, .ref m28, .ref m29, .ref m30, .ref m31, .ref m32, .ref m33, .ref m34, .ref m35, .ref m36, .ref m37, .ref m38, .ref m39, .ref m40, .ref m41, .ref m42, .int 0, .int 0, .int 0, .ref m46, .int 0, .int 0, .int 0, .int 0, .int 0, .int 0, .ref m53, .int 0, .int 0, .int 0, .ref m57, .ref m58])), (m19, .inl (k19, 70, .inl (fun _ => 0))), (m20, .inl (k20, 75, .inl (fun _ => 0))), (m21, .inl (k21, 20, .inl (fun _ => 0))), (m22, .inl (k22, 450, .inl (fun _ => 0))), (m16, .inl (k16, 5, .inl (fun _ => 0))), (m17, .inl (k17, 40, .inl (fun _ => 0))), (m18, .inl (k18, 30, .inl (fun _ => 0)))] H := hP
  have hD : va_D A [(h0, .inr (12, [.int 0, .ref m1, .ref m2, .ref m3, .ref m4, .ref m5, .int 0, .int 0, .int 0, .int 0, .int 0, .long 0, .int 0, .int bp, .int 0, .int (-1), .ref m16, .ref m17, .ref m18, .ref m19, .ref m20, .ref m21, .ref m22, .ref m23, .int 0, .int 0, .int 0, .ref m27, .ref m28, .ref m29, .ref m30, .ref m31, .ref m32, .ref m33, .ref m34, .ref m35, .ref m36, .ref m37, .ref m38, .ref m39, .ref m40, .ref m41, .ref m42, .int 0, .int 0, .int 0, .ref m46, .int 0, .int 0, .int 0, .int 0, .int 0, .int 0, .ref m53, .int 0, .int 0, .int 0, .ref m57, .ref m58])), (m19, .inl (k19, 70, .inl (fun _ => 0))), (m20, .inl (k20, 75, .inl (fun _ => 0))), (m21, .inl (k21, 20, .inl (fun _ => 0))), (m22, .inl (k22, 450, .inl (fun _ => 0))), (m16, .inl (k16, 5, .inl (fun _ => 0))), (m17, .inl (k17, 40, .inl (fun _ => 0))), (m18, .inl (k18, 30, .inl (fun _ => 0)))] := hD
  refine W.widen (k := 0) (n := 0) (Nat.le_of_ble_eq_true rfl) (Nat.le_of_ble_eq_true rfl) ?_
  refine lv_aload_n hx hb dX12_copyValley_32 rfl (lv_at hl 0 rfl) ?_
  refine va_get (D := (dC, dI)) (ci := 12) (v := .ref m19) (C := RX12) (T := TX12) (N := 59) hx hb hts (fun w h => List.mem_cons_of_mem _ (List.mem_append_right _ (List.mem_append_left _ h))) hown hK hP 0 rfl rfl 19 (by decide) (hts (.fieldLink RX12 40 "SagMemoryModel" "cart" "[I") (wl_mem 6 rfl)) (fun _ h9 => h9) rfl dX12_copyValley_33 ?_
  refine lv_bipush (v := 14) hx hb dX12_copyValley_36 (by decide) ?_
  refine lv_iload_n hx hb dX12_copyValley_38 rfl (lv_at hl 1 rfl) ?_
  refine lv_iload_n hx hb dX12_copyValley_39 rfl (lv_at hl 2 rfl) ?_
  have hPc := hP.sub (ws' := [(m19, .inl (k19, 70, .inl (fun _ => 0)))]) [1] rfl
  have hKc := hK.sub (tys' := [(k19, .int)]) [0] rfl
  have hDc := hD.sub (ws' := [(m19, .inl (k19, 70, .inl (fun _ => 0)))]) [1] (by decide) rfl
  have hFc := va_free (wc := [(m19, .inl (k19, 70, .inl (fun _ => 0)))]) hD hS hA [1] rfl
  refine va_callv (va_runS (As := [.ref m19, .int 14, .int 0, .int 3]) (rest := []) ⟨hx, hb, hml, hown, hts⟩ (f_X12_copyRow_cart_03 l dC dI H.size m19 k19) (va_cwS 4 hts (gk_S (wl_mem 1 rfl) (wl_mem 2 rfl) (wl_mem 3 rfl) (fun w h => List.mem_cons_of_mem _ (List.mem_append_right _ (List.mem_append_right _ (List.mem_append_right _ (List.mem_append_right _ (List.mem_append_right _ (List.mem_append_left _ h))))))) wkg_f_X12_copyRow_cart_03) rfl rfl rfl (by decide +kernel) ⟨Nat.le_of_ble_eq_true rfl, Nat.le_of_ble_eq_true rfl⟩) ⟨fun a U g mk q => by obtain ⟨q0, q1, qP, qK, qD⟩ := q; exact ⟨q0, q1, qP, va_K.moved (u := U) (U := U.calling g mk a) (Vm.Alike.refl U.vm) qK, qD⟩, fun U hU hW => ⟨rfl, by rw [hU], by rw [hU]; exact hPc, va_K.moved hW.alike hKc, hDc.weaken (fun _ _ _ _ => trivial)⟩⟩ rfl rfl hl.1 rfl (lv_room (Nat.le_of_ble_eq_true rfl)) dX12_copyValley_40 ⟨Nat.le_of_ble_eq_true rfl, Nat.le_of_ble_eq_true rfl⟩) hS (fun q _ h => hFc q h) hFc (fun u t H1 locs ht hvm hz7 hB hz1 hk1 hS => ?_)
  obtain ⟨hP1, hK1, hD1⟩ := hB
  rw [ht] at hP1
  have hK1 := va_K.moved hvm.symm hK1
  obtain ⟨hP, hD⟩ := va_join (wr := [(h0, .inr (12, [.int 0, .ref m1, .ref m2, .ref m3, .ref m4, .ref m5, .int 0, .int 0, .int 0, .int 0, .int 0, .long 0, .int 0, .int bp, .int 0, .int (-1), .ref m16, .ref m17, .ref m18, .ref m19, .ref m20, .ref m21, .ref m22, .ref m23, .int 0, .int 0, .int 0, .ref m27, .ref m28, .ref m29, .ref m30, .ref m31, .ref m32, .ref m33, .ref m34, .ref m35, .ref m36, .ref m37, .ref m38, .ref m39, .ref m40, .ref m41, .ref m42, .int 0, .int 0, .int 0, .ref m46, .int 0, .int 0, .int 0, .int 0, .int 0, .int 0, .ref m53, .int 0, .int 0, .int 0, .ref m57, .ref m58])), (m20, .inl (k20, 75, .inl (fun _ => 0))), (m21, .inl (k21, 20, .inl (fun _ => 0))), (m22, .inl (k22, 450, .inl (fun _ => 0))), (m16, .inl (k16, 5, .inl (fun _ => 0))), (m17, .inl (k17, 40, .inl (fun _ => 0))), (m18, .inl (k18, 30, .inl (fun _ => 0)))]) (w1 := [(m19, .inl (k19, 70, .inl (fun _ => 0)))]) hP hD [1] [0, 2, 3, 4, 5, 6, 7] rfl rfl (by decide) (by decide) hk1 hFc hP1 hD1
  have hK := (hK.sub (tys' := [(k20, .int), (k21, .int), (k22, .int), (k16, .int), (k17, .int), (k18, .int)]) [1, 2, 3, 4, 5, 6] rfl).app hK1
  generalize H1 = H at hP hS ⊢
  have hK : va_K (dC, dI) vwCl [(k20, .int), (k21, .int), (k22, .int), (k16, .int), (k17, .int), (k18, .int), (k19, .int)] s := hK
  have hP : va_P (dC, dI) vwCl [(h0, .inr (12, [.int 0, .ref m1, .ref m2, .ref m3, .ref m4, .ref m5, .int 0, .int 0, .int 0, .int 0, .int 0, .long 0, .int 0, .int bp, .int 0, .int (-1), .ref m16, .ref m17, .ref m18, .ref m19, .ref m20, .ref m21, .ref m22, .ref m23, .int 0, .int 0, .int 0, .ref m27, .ref m28, .ref m29, .ref m30, .ref m31, .ref m32, .ref m33, .ref m34, .ref m35, .ref m36, .ref m37, .ref m38, .ref m39, .ref m40, .ref m41, .ref m42, .int 0, .int 0, .int 0, .ref m46, .int 0, .int 0, .int 0, .int 0, .int 0, .int 0, .ref m53, .int 0, .int 0, .int 0, .ref m57, .ref m58])), (m20, .inl (k20, 75, .inl (fun _ => 0))), (m21, .inl (k21, 20, .inl (fun _ => 0))), (m22, .inl (k22, 450, .inl (fun _ => 0))), (m16, .inl (k16, 5, .inl (fun _ => 0))), (m17, .inl (k17, 40, .inl (fun _ => 0))), (m18, .inl (k18, 30, .inl (fun _ => 0))), (m19, .inl (k19, 70, .inl (fun _ => 0)))] H := hP
  have hD : va_D A [(h0, .inr (12, [.int 0, .ref m1, .ref m2, .ref m3, .ref m4, .ref m5, .int 0, .int 0, .int 0, .int 0, .int 0, .long 0, .int 0, .int bp, .int 0, .int (-1), .ref m16, .ref m17, .ref m18, .ref m19, .ref m20, .ref m21, .ref m22, .ref m23, .int 0, .int 0, .int 0, .ref m27, .ref m28, .ref m29, .ref m30, .ref m31, .ref m32, .ref m33, .ref m34, .ref m35, .ref m36, .ref m37, .ref m38, .ref m39, .ref m40, .ref m41, .ref m42, .int 0, .int 0, .int 0, .ref m46, .int 0, .int 0, .int 0, .int 0, .int 0, .int 0, .ref m53, .int 0, .int 0, .int 0, .ref m57, .ref m58])), (m20, .inl (k20, 75, .inl (fun _ => 0))), (m21, .inl (k21, 20, .inl (fun _ => 0))), (m22, .inl (k22, 450, .inl (fun _ => 0))), (m16, .inl (k16, 5, .inl (fun _ => 0))), (m17, .inl (k17, 40, .inl (fun _ => 0))), (m18, .inl (k18, 30, .inl (fun _ => 0))), (m19, .inl (k19, 70, .inl (fun _ => 0)))] := hD
  refine W.widen (k := 0) (n := 0) (Nat.le_of_ble_eq_true rfl) (Nat.le_of_ble_eq_true rfl) ?_
  refine lv_aload_n hx hb dX12_copyValley_43 rfl (lv_at hl 0 rfl) ?_
  refine va_get (D := (dC, dI)) (ci := 12) (v := .ref m20) (C := RX12) (T := TX12) (N := 59) hx hb hts (fun w h => List.mem_cons_of_mem _ (List.mem_append_right _ (List.mem_append_left _ h))) hown hK hP 0 rfl rfl 20 (by decide) (hts (.fieldLink RX12 43 "SagMemoryModel" "ward" "[I") (wl_mem 7 rfl)) (fun _ h9 => h9) rfl dX12_copyValley_44 ?_
  refine lv_bipush (v := 15) hx hb dX12_copyValley_47 (by decide) ?_
  refine lv_iload_n hx hb dX12_copyValley_49 rfl (lv_at hl 1 rfl) ?_
  refine lv_iload_n hx hb dX12_copyValley_50 rfl (lv_at hl 2 rfl) ?_
  have hPc := hP.sub (ws' := [(m20, .inl (k20, 75, .inl (fun _ => 0)))]) [1] rfl
  have hKc := hK.sub (tys' := [(k20, .int)]) [0] rfl
  have hDc := hD.sub (ws' := [(m20, .inl (k20, 75, .inl (fun _ => 0)))]) [1] (by decide) rfl
  have hFc := va_free (wc := [(m20, .inl (k20, 75, .inl (fun _ => 0)))]) hD hS hA [1] rfl
  refine va_callv (va_runS (As := [.ref m20, .int 15, .int 0, .int 3]) (rest := []) ⟨hx, hb, hml, hown, hts⟩ (f_X12_copyRow_ward_03 l dC dI H.size m20 k20) (va_cwS 4 hts (gk_S (wl_mem 1 rfl) (wl_mem 2 rfl) (wl_mem 3 rfl) (fun w h => List.mem_cons_of_mem _ (List.mem_append_right _ (List.mem_append_right _ (List.mem_append_right _ (List.mem_append_right _ (List.mem_append_right _ (List.mem_append_right _ (List.mem_append_left _ h)))))))) wkg_f_X12_copyRow_ward_03) rfl rfl rfl (by decide +kernel) ⟨Nat.le_of_ble_eq_true rfl, Nat.le_of_ble_eq_true rfl⟩) ⟨fun a U g mk q => by obtain ⟨q0, q1, qP, qK, qD⟩ := q; exact ⟨q0, q1, qP, va_K.moved (u := U) (U := U.calling g mk a) (Vm.Alike.refl U.vm) qK, qD⟩, fun U hU hW => ⟨rfl, by rw [hU], by rw [hU]; exact hPc, va_K.moved hW.alike hKc, hDc.weaken (fun _ _ _ _ => trivial)⟩⟩ rfl rfl hl.1 rfl (lv_room (Nat.le_of_ble_eq_true rfl)) dX12_copyValley_51 ⟨Nat.le_of_ble_eq_true rfl, Nat.le_of_ble_eq_true rfl⟩) hS (fun q _ h => hFc q h) hFc (fun u t H1 locs ht hvm hz9 hB hz1 hk1 hS => ?_)
  obtain ⟨hP1, hK1, hD1⟩ := hB
  rw [ht] at hP1
  have hK1 := va_K.moved hvm.symm hK1
  obtain ⟨hP, hD⟩ := va_join (wr := [(h0, .inr (12, [.int 0, .ref m1, .ref m2, .ref m3, .ref m4, .ref m5, .int 0, .int 0, .int 0, .int 0, .int 0, .long 0, .int 0, .int bp, .int 0, .int (-1), .ref m16, .ref m17, .ref m18, .ref m19, .ref m20, .ref m21, .ref m22, .ref m23, .int 0, .int 0, .int 0, .ref m27, .ref m28, .ref m29, .ref m30, .ref m31, .ref m32, .ref m33, .ref m34, .ref m35, .ref m36, .ref m37, .ref m38, .ref m39, .ref m40, .ref m41, .ref m42, .int 0, .int 0, .int 0, .ref m46, .int 0, .int 0, .int 0, .int 0, .int 0, .int 0, .ref m53, .int 0, .int 0, .int 0, .ref m57, .ref m58])), (m21, .inl (k21, 20, .inl (fun _ => 0))), (m22, .inl (k22, 450, .inl (fun _ => 0))), (m16, .inl (k16, 5, .inl (fun _ => 0))), (m17, .inl (k17, 40, .inl (fun _ => 0))), (m18, .inl (k18, 30, .inl (fun _ => 0))), (m19, .inl (k19, 70, .inl (fun _ => 0)))]) (w1 := [(m20, .inl (k20, 75, .inl (fun _ => 0)))]) hP hD [1] [0, 2, 3, 4, 5, 6, 7] rfl rfl (by decide) (by decide) hk1 hFc hP1 hD1
  have hK := (hK.sub (tys' := [(k21, .int), (k22, .int), (k16, .int), (k17, .int), (k18, .int), (k19, .int)]) [1, 2, 3, 4, 5, 6] rfl).app hK1
  generalize H1 = H at hP hS ⊢
  have hK : va_K (dC, dI) vwCl [(k21, .int), (k22, .int), (k16, .int), (k17, .int), (k18, .int), (k19, .int), (k20, .int)] s := hK
  have hP : va_P (dC, dI) vwCl [(h0, .inr (12, [.int 0, .ref m1, .ref m2, .ref m3, .ref m4, .ref m5, .int 0, .int 0, .int 0, .int 0, .int 0, .long 0, .int 0, .int bp, .int 0, .int (-1), .ref m16, .ref m17, .ref m18, .ref m19, .ref m20, .ref m21, .ref m22, .ref m23, .int 0, .int 0, .int 0, .ref m27, .ref m28, .ref m29, .ref m30, .ref m31, .ref m32, .ref m33, .ref m34, .ref m35, .ref m36, .ref m37, .ref m38, .ref m39, .ref m40, .ref m41, .ref m42, .int 0, .int 0, .int 0, .ref m46, .int 0, .int 0, .int 0, .int 0, .int 0, .int 0, .ref m53, .int 0, .int 0, .int 0, .ref m57, .ref m58])), (m21, .inl (k21, 20, .inl (fun _ => 0))), (m22, .inl (k22, 450, .inl (fun _ => 0))), (m16, .inl (k16, 5, .inl (fun _ => 0))), (m17, .inl (k17, 40, .inl (fun _ => 0))), (m18, .inl (k18, 30, .inl (fun _ => 0))), (m19, .inl (k19, 70, .inl (fun _ => 0))), (m20, .inl (k20, 75, .inl (fun _ => 0)))] H := hP
  have hD : va_D A [(h0, .inr (12, [.int 0, .ref m1, .ref m2, .ref m3, .ref m4, .ref m5, .int 0, .int 0, .int 0, .int 0, .int 0, .long 0, .int 0, .int bp, .int 0, .int (-1), .ref m16, .ref m17, .ref m18, .ref m19, .ref m20, .ref m21, .ref m22, .ref m23, .int 0, .int 0, .int 0, .ref m27, .ref m28, .ref m29, .ref m30, .ref m31, .ref m32, .ref m33, .ref m34, .ref m35, .ref m36, .ref m37, .ref m38, .ref m39, .ref m40, .ref m41, .ref m42, .int 0, .int 0, .int 0, .ref m46, .int 0, .int 0, .int 0, .int 0, .int 0, .int 0, .ref m53, .int 0, .int 0, .int 0, .ref m57, .ref m58])), (m21, .inl (k21, 20, .inl (fun _ => 0))), (m22, .inl (k22, 450, .inl (fun _ => 0))), (m16, .inl (k16, 5, .inl (fun _ => 0))), (m17, .inl (k17, 40, .inl (fun _ => 0))), (m18, .inl (k18, 30, .inl (fun _ => 0))), (m19, .inl (k19, 70, .inl (fun _ => 0))), (m20, .inl (k20, 75, .inl (fun _ => 0)))] := hD
  refine W.widen (k := 0) (n := 0) (Nat.le_of_ble_eq_true rfl) (Nat.le_of_ble_eq_true rfl) ?_
  refine lv_aload_n hx hb dX12_copyValley_54 rfl (lv_at hl 0 rfl) ?_
  refine va_get (D := (dC, dI)) (ci := 12) (v := .ref m21) (C := RX12) (T := TX12) (N := 59) hx hb hts (fun w h => List.mem_cons_of_mem _ (List.mem_append_right _ (List.mem_append_left _ h))) hown hK hP 0 rfl rfl 21 (by decide) (hts (.fieldLink RX12 46 "SagMemoryModel" "frostAt" "[I") (wl_mem 8 rfl)) (fun _ h9 => h9) rfl dX12_copyValley_55 ?_
  refine lv_iconst (v := 4) hx hb dX12_copyValley_58 (by decide) ?_
  refine lv_iload_n hx hb dX12_copyValley_59 rfl (lv_at hl 1 rfl) ?_
  refine lv_iload_n hx hb dX12_copyValley_60 rfl (lv_at hl 2 rfl) ?_
  have hPc := hP.sub (ws' := [(m21, .inl (k21, 20, .inl (fun _ => 0)))]) [1] rfl
  have hKc := hK.sub (tys' := [(k21, .int)]) [0] rfl
  have hDc := hD.sub (ws' := [(m21, .inl (k21, 20, .inl (fun _ => 0)))]) [1] (by decide) rfl
  have hFc := va_free (wc := [(m21, .inl (k21, 20, .inl (fun _ => 0)))]) hD hS hA [1] rfl
  refine va_callv (va_runS (As := [.ref m21, .int 4, .int 0, .int 3]) (rest := []) ⟨hx, hb, hml, hown, hts⟩ (f_X12_copyRow_frostAt_03 l dC dI H.size m21 k21) (va_cwS 4 hts (gk_S (wl_mem 1 rfl) (wl_mem 2 rfl) (wl_mem 3 rfl) (fun w h => List.mem_cons_of_mem _ (List.mem_append_right _ (List.mem_append_right _ (List.mem_append_right _ (List.mem_append_right _ (List.mem_append_right _ (List.mem_append_right _ (List.mem_append_right _ (List.mem_append_left _ h))))))))) wkg_f_X12_copyRow_frostAt_03) rfl rfl rfl (by decide +kernel) ⟨Nat.le_of_ble_eq_true rfl, Nat.le_of_ble_eq_true rfl⟩) ⟨fun a U g mk q => by obtain ⟨q0, q1, qP, qK, qD⟩ := q; exact ⟨q0, q1, qP, va_K.moved (u := U) (U := U.calling g mk a) (Vm.Alike.refl U.vm) qK, qD⟩, fun U hU hW => ⟨rfl, by rw [hU], by rw [hU]; exact hPc, va_K.moved hW.alike hKc, hDc.weaken (fun _ _ _ _ => trivial)⟩⟩ rfl rfl hl.1 rfl (lv_room (Nat.le_of_ble_eq_true rfl)) dX12_copyValley_61 ⟨Nat.le_of_ble_eq_true rfl, Nat.le_of_ble_eq_true rfl⟩) hS (fun q _ h => hFc q h) hFc (fun u t H1 locs ht hvm hz11 hB hz1 hk1 hS => ?_)
  obtain ⟨hP1, hK1, hD1⟩ := hB
  rw [ht] at hP1
  have hK1 := va_K.moved hvm.symm hK1
  obtain ⟨hP, hD⟩ := va_join (wr := [(h0, .inr (12, [.int 0, .ref m1, .ref m2, .ref m3, .ref m4, .ref m5, .int 0, .int 0, .int 0, .int 0, .int 0, .long 0, .int 0, .int bp, .int 0, .int (-1), .ref m16, .ref m17, .ref m18, .ref m19, .ref m20, .ref m21, .ref m22, .ref m23, .int 0, .int 0, .int 0, .ref m27, .ref m28, .ref m29, .ref m30, .ref m31, .ref m32, .ref m33, .ref m34, .ref m35, .ref m36, .ref m37, .ref m38, .ref m39, .ref m40, .ref m41, .ref m42, .int 0, .int 0, .int 0, .ref m46, .int 0, .int 0, .int 0, .int 0, .int 0, .int 0, .ref m53, .int 0, .int 0, .int 0, .ref m57, .ref m58])), (m22, .inl (k22, 450, .inl (fun _ => 0))), (m16, .inl (k16, 5, .inl (fun _ => 0))), (m17, .inl (k17, 40, .inl (fun _ => 0))), (m18, .inl (k18, 30, .inl (fun _ => 0))), (m19, .inl (k19, 70, .inl (fun _ => 0))), (m20, .inl (k20, 75, .inl (fun _ => 0)))]) (w1 := [(m21, .inl (k21, 20, .inl (fun _ => 0)))]) hP hD [1] [0, 2, 3, 4, 5, 6, 7] rfl rfl (by decide) (by decide) hk1 hFc hP1 hD1
  have hK := (hK.sub (tys' := [(k22, .int), (k16, .int), (k17, .int), (k18, .int), (k19, .int), (k20, .int)]) [1, 2, 3, 4, 5, 6] rfl).app hK1
  generalize H1 = H at hP hS ⊢
  have hK : va_K (dC, dI) vwCl [(k22, .int), (k16, .int), (k17, .int), (k18, .int), (k19, .int), (k20, .int), (k21, .int)] s := hK
  have hP : va_P (dC, dI) vwCl [(h0, .inr (12, [.int 0, .ref m1, .ref m2, .ref m3, .ref m4, .ref m5, .int 0, .int 0, .int 0, .int 0, .int 0, .long 0, .int 0, .int bp, .int 0, .int (-1), .ref m16, .ref m17, .ref m18, .ref m19, .ref m20, .ref m21, .ref m22, .ref m23, .int 0, .int 0, .int 0, .ref m27, .ref m28, .ref m29, .ref m30, .ref m31, .ref m32, .ref m33, .ref m34, .ref m35, .ref m36, .ref m37, .ref m38, .ref m39, .ref m40, .ref m41, .ref m42, .int 0, .int 0, .int 0, .ref m46, .int 0, .int 0, .int 0, .int 0, .int 0, .int 0, .ref m53, .int 0, .int 0, .int 0, .ref m57, .ref m58])), (m22, .inl (k22, 450, .inl (fun _ => 0))), (m16, .inl (k16, 5, .inl (fun _ => 0))), (m17, .inl (k17, 40, .inl (fun _ => 0))), (m18, .inl (k18, 30, .inl (fun _ => 0))), (m19, .inl (k19, 70, .inl (fun _ => 0))), (m20, .inl (k20, 75, .inl (fun _ => 0))), (m21, .inl (k21, 20, .inl (fun _ => 0)))] H := hP
  have hD : va_D A [(h0, .inr (12, [.int 0, .ref m1, .ref m2, .ref m3, .ref m4, .ref m5, .int 0, .int 0, .int 0, .int 0, .int 0, .long 0, .int 0, .int bp, .int 0, .int (-1), .ref m16, .ref m17, .ref m18, .ref m19, .ref m20, .ref m21, .ref m22, .ref m23, .int 0, .int 0, .int 0, .ref m27, .ref m28, .ref m29, .ref m30, .ref m31, .ref m32, .ref m33, .ref m34, .ref m35, .ref m36, .ref m37, .ref m38, .ref m39, .ref m40, .ref m41, .ref m42, .int 0, .int 0, .int 0, .ref m46, .int 0, .int 0, .int 0, .int 0, .int 0, .int 0, .ref m53, .int 0, .int 0, .int 0, .ref m57, .ref m58])), (m22, .inl (k22, 450, .inl (fun _ => 0))), (m16, .inl (k16, 5, .inl (fun _ => 0))), (m17, .inl (k17, 40, .inl (fun _ => 0))), (m18, .inl (k18, 30, .inl (fun _ => 0))), (m19, .inl (k19, 70, .inl (fun _ => 0))), (m20, .inl (k20, 75, .inl (fun _ => 0))), (m21, .inl (k21, 20, .inl (fun _ => 0)))] := hD
  refine W.widen (k := 0) (n := 0) (Nat.le_of_ble_eq_true rfl) (Nat.le_of_ble_eq_true rfl) ?_
  refine lv_aload_n hx hb dX12_copyValley_64 rfl (lv_at hl 0 rfl) ?_
  refine va_get (D := (dC, dI)) (ci := 12) (v := .ref m22) (C := RX12) (T := TX12) (N := 59) hx hb hts (fun w h => List.mem_cons_of_mem _ (List.mem_append_right _ (List.mem_append_left _ h))) hown hK hP 0 rfl rfl 22 (by decide) (hts (.fieldLink RX12 49 "SagMemoryModel" "act" "[I") (wl_mem 9 rfl)) (fun _ h9 => h9) rfl dX12_copyValley_65 ?_
  refine lv_bipush (v := 90) hx hb dX12_copyValley_68 (by decide) ?_
  refine lv_iload_n hx hb dX12_copyValley_70 rfl (lv_at hl 1 rfl) ?_
  refine lv_iload_n hx hb dX12_copyValley_71 rfl (lv_at hl 2 rfl) ?_
  have hPc := hP.sub (ws' := [(m22, .inl (k22, 450, .inl (fun _ => 0)))]) [1] rfl
  have hKc := hK.sub (tys' := [(k22, .int)]) [0] rfl
  have hDc := hD.sub (ws' := [(m22, .inl (k22, 450, .inl (fun _ => 0)))]) [1] (by decide) rfl
  have hFc := va_free (wc := [(m22, .inl (k22, 450, .inl (fun _ => 0)))]) hD hS hA [1] rfl
  refine va_callv (va_runS (As := [.ref m22, .int 90, .int 0, .int 3]) (rest := []) ⟨hx, hb, hml, hown, hts⟩ (f_X12_copyRow_act_03 l dC dI H.size m22 k22) (va_cwS 4 hts (gk_S (wl_mem 1 rfl) (wl_mem 2 rfl) (wl_mem 3 rfl) (fun w h => List.mem_cons_of_mem _ (List.mem_append_right _ (List.mem_append_right _ (List.mem_append_right _ (List.mem_append_right _ (List.mem_append_right _ (List.mem_append_right _ (List.mem_append_right _ (List.mem_append_right _ (List.mem_append_left _ h)))))))))) wkg_f_X12_copyRow_act_03) rfl rfl rfl (by decide +kernel) ⟨Nat.le_of_ble_eq_true rfl, Nat.le_of_ble_eq_true rfl⟩) ⟨fun a U g mk q => by obtain ⟨q0, q1, qP, qK, qD⟩ := q; exact ⟨q0, q1, qP, va_K.moved (u := U) (U := U.calling g mk a) (Vm.Alike.refl U.vm) qK, qD⟩, fun U hU hW => ⟨rfl, by rw [hU], by rw [hU]; exact hPc, va_K.moved hW.alike hKc, hDc.weaken (fun _ _ _ _ => trivial)⟩⟩ rfl rfl hl.1 rfl (lv_room (Nat.le_of_ble_eq_true rfl)) dX12_copyValley_72 ⟨Nat.le_of_ble_eq_true rfl, Nat.le_of_ble_eq_true rfl⟩) hS (fun q _ h => hFc q h) hFc (fun u t H1 locs ht hvm hz13 hB hz1 hk1 hS => ?_)
  obtain ⟨hP1, hK1, hD1⟩ := hB
  rw [ht] at hP1
  have hK1 := va_K.moved hvm.symm hK1
  obtain ⟨hP, hD⟩ := va_join (wr := [(h0, .inr (12, [.int 0, .ref m1, .ref m2, .ref m3, .ref m4, .ref m5, .int 0, .int 0, .int 0, .int 0, .int 0, .long 0, .int 0, .int bp, .int 0, .int (-1), .ref m16, .ref m17, .ref m18, .ref m19, .ref m20, .ref m21, .ref m22, .ref m23, .int 0, .int 0, .int 0, .ref m27, .ref m28, .ref m29, .ref m30, .ref m31, .ref m32, .ref m33, .ref m34, .ref m35, .ref m36, .ref m37, .ref m38, .ref m39, .ref m40, .ref m41, .ref m42, .int 0, .int 0, .int 0, .ref m46, .int 0, .int 0, .int 0, .int 0, .int 0, .int 0, .ref m53, .int 0, .int 0, .int 0, .ref m57, .ref m58])), (m16, .inl (k16, 5, .inl (fun _ => 0))), (m17, .inl (k17, 40, .inl (fun _ => 0))), (m18, .inl (k18, 30, .inl (fun _ => 0))), (m19, .inl (k19, 70, .inl (fun _ => 0))), (m20, .inl (k20, 75, .inl (fun _ => 0))), (m21, .inl (k21, 20, .inl (fun _ => 0)))]) (w1 := [(m22, .inl (k22, 450, .inl (fun _ => 0)))]) hP hD [1] [0, 2, 3, 4, 5, 6, 7] rfl rfl (by decide) (by decide) hk1 hFc hP1 hD1
  have hK := (hK.sub (tys' := [(k16, .int), (k17, .int), (k18, .int), (k19, .int), (k20, .int), (k21, .int)]) [1, 2, 3, 4, 5, 6] rfl).app hK1
  generalize H1 = H at hP hS ⊢
  have hK : va_K (dC, dI) vwCl [(k16, .int), (k17, .int), (k18, .int), (k19, .int), (k20, .int), (k21, .int), (k22, .int)] s := hK
  have hP : va_P (dC, dI) vwCl [(h0, .inr (12, [.int 0, .ref m1, .ref m2, .ref m3, .ref m4, .ref m5, .int 0, .int 0, .int 0, .int 0, .int 0, .long 0, .int 0, .int bp, .int 0, .int (-1), .ref m16, .ref m17, .ref m18, .ref m19, .ref m20, .ref m21, .ref m22, .ref m23, .int 0, .int 0, .int 0, .ref m27, .ref m28, .ref m29, .ref m30, .ref m31, .ref m32, .ref m33, .ref m34, .ref m35, .ref m36, .ref m37, .ref m38, .ref m39, .ref m40, .ref m41, .ref m42, .int 0, .int 0, .int 0, .ref m46, .int 0, .int 0, .int 0, .int 0, .int 0, .int 0, .ref m53, .int 0, .int 0, .int 0, .ref m57, .ref m58])), (m16, .inl (k16, 5, .inl (fun _ => 0))), (m17, .inl (k17, 40, .inl (fun _ => 0))), (m18, .inl (k18, 30, .inl (fun _ => 0))), (m19, .inl (k19, 70, .inl (fun _ => 0))), (m20, .inl (k20, 75, .inl (fun _ => 0))), (m21, .inl (k21, 20, .inl (fun _ => 0))), (m22, .inl (k22, 450, .inl (fun _ => 0)))] H := hP
  have hD : va_D A [(h0, .inr (12, [.int 0, .ref m1, .ref m2, .ref m3, .ref m4, .ref m5, .int 0, .int 0, .int 0, .int 0, .int 0, .long 0, .int 0, .int bp, .int 0, .int (-1), .ref m16, .ref m17, .ref m18, .ref m19, .ref m20, .ref m21, .ref m22, .ref m23, .int 0, .int 0, .int 0, .ref m27, .ref m28, .ref m29, .ref m30, .ref m31, .ref m32, .ref m33, .ref m34, .ref m35, .ref m36, .ref m37, .ref m38, .ref m39, .ref m40, .ref m41, .ref m42, .int 0, .int 0, .int 0, .ref m46, .int 0, .int 0, .int 0, .int 0, .int 0, .int 0, .ref m53, .int 0, .int 0, .int 0, .ref m57, .ref m58])), (m16, .inl (k16, 5, .inl (fun _ => 0))), (m17, .inl (k17, 40, .inl (fun _ => 0))), (m18, .inl (k18, 30, .inl (fun _ => 0))), (m19, .inl (k19, 70, .inl (fun _ => 0))), (m20, .inl (k20, 75, .inl (fun _ => 0))), (m21, .inl (k21, 20, .inl (fun _ => 0))), (m22, .inl (k22, 450, .inl (fun _ => 0)))] := hD
  refine W.widen (k := 0) (n := 0) (Nat.le_of_ble_eq_true rfl) (Nat.le_of_ble_eq_true rfl) ?_
  have hP9 := hP.sub (ws' := [(h0, .inr (12, [.int 0, .ref m1, .ref m2, .ref m3, .ref m4, .ref m5, .int 0, .int 0, .int 0, .int 0, .int 0, .long 0, .int 0, .int bp, .int 0, .int (-1), .ref m16, .ref m17, .ref m18, .ref m19, .ref m20, .ref m21, .ref m22, .ref m23, .int 0, .int 0, .int 0, .ref m27, .ref m28, .ref m29, .ref m30, .ref m31, .ref m32, .ref m33, .ref m34, .ref m35, .ref m36, .ref m37, .ref m38, .ref m39, .ref m40, .ref m41, .ref m42, .int 0, .int 0, .int 0, .ref m46, .int 0, .int 0, .int 0, .int 0, .int 0, .int 0, .ref m53, .int 0, .int 0, .int 0, .ref m57, .ref m58])), (m16, .inl (k16, 5, .inl (fun _ => 0))), (m17, .inl (k17, 40, .inl (fun _ => 0))), (m18, .inl (k18, 30, .inl (fun _ => 0))), (m19, .inl (k19, 70, .inl (fun _ => 0))), (m20, .inl (k20, 75, .inl (fun _ => 0))), (m21, .inl (k21, 20, .inl (fun _ => 0))), (m22, .inl (k22, 450, .inl (fun _ => 0)))]) [0, 1, 2, 3, 4, 5, 6, 7] rfl
  have hD9 := hD.sub (ws' := [(h0, .inr (12, [.int 0, .ref m1, .ref m2, .ref m3, .ref m4, .ref m5, .int 0, .int 0, .int 0, .int 0, .int 0, .long 0, .int 0, .int bp, .int 0, .int (-1), .ref m16, .ref m17, .ref m18, .ref m19, .ref m20, .ref m21, .ref m22, .ref m23, .int 0, .int 0, .int 0, .ref m27, .ref m28, .ref m29, .ref m30, .ref m31, .ref m32, .ref m33, .ref m34, .ref m35, .ref m36, .ref m37, .ref m38, .ref m39, .ref m40, .ref m41, .ref m42, .int 0, .int 0, .int 0, .ref m46, .int 0, .int 0, .int 0, .int 0, .int 0, .int 0, .ref m53, .int 0, .int 0, .int 0, .ref m57, .ref m58])), (m16, .inl (k16, 5, .inl (fun _ => 0))), (m17, .inl (k17, 40, .inl (fun _ => 0))), (m18, .inl (k18, 30, .inl (fun _ => 0))), (m19, .inl (k19, 70, .inl (fun _ => 0))), (m20, .inl (k20, 75, .inl (fun _ => 0))), (m21, .inl (k21, 20, .inl (fun _ => 0))), (m22, .inl (k22, 450, .inl (fun _ => 0)))]) [0, 1, 2, 3, 4, 5, 6, 7] (by decide) rfl
  have hK9 := hK.sub (tys' := [(k16, .int), (k17, .int), (k18, .int), (k19, .int), (k20, .int), (k21, .int), (k22, .int)]) [0, 1, 2, 3, 4, 5, 6] rfl
  exact W.vret hx hb hr (fun t ht hW => ⟨⟨(), rfl, trivial, by rw [ht]; exact hP9, va_K.moved hW.alike hK9, hD9⟩, hS.F ht⟩) hS.2.2 dX12_copyValley_75
