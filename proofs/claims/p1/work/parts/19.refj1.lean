set_option maxHeartbeats 4000000 in
set_option maxRecDepth 100000 in
theorem f_X12_four_4 (l : Launch) (dC : Nat → ClassId) (dI : Nat → Nat → Nat) (sz : Nat) (h0 : Nat) (m1 : Nat) (m2 : Nat) (m3 : Nat) (m4 : Nat) (m5 : Nat) (m16 : Nat) (m17 : Nat) (m18 : Nat) (m19 : Nat) (m20 : Nat) (m21 : Nat) (m22 : Nat) (m23 : Nat) (m27 : Nat) (m28 : Nat) (m29 : Nat) (m30 : Nat) (m31 : Nat) (m32 : Nat) (m33 : Nat) (m34 : Nat) (m35 : Nat) (m36 : Nat) (m37 : Nat) (m38 : Nat) (m39 : Nat) (m40 : Nat) (m41 : Nat) (m42 : Nat) (m46 : Nat) (m53 : Nat) (m57 : Nat) (m58 : Nat) (k5 : ClassId) (f5 : Nat → Int32) (p1 : Int32) : Met l yX12_four wk_f_X12_four_4 ({ frames := 0, cells := 0, slots := 0, locals := 0 }) (va_Pc [.ref h0, .int p1] (fun U => U.heap.size = sz ∧ va_P (dC, dI) vwCl [(h0, .inr (12, [.int 0, .ref m1, .ref m2, .ref m3, .ref m4, .ref m5, .int 4, .int 0, .int 0, .int 0, .int 0, .long 0, .int 0, .int 0, .int 0, .int (-1), .ref m16, .ref m17, .ref m18, .ref m19, .ref m20, .ref m21, .ref m22, .ref m23, .int 0, .int 0, .int 0, .ref m27, .ref m28, .ref m29, .ref m30, .ref m31, .ref m32, .ref m33, .ref m34, .ref m35, .ref m36, .ref m37, .ref m38, .ref m39, .ref m40, .ref m41, .ref m42, .int 0, .int 0, .int 0, .ref m46, .int 0, .int 0, .int 0, .int 0, .int 0, .int 0, .ref m53, .int 0, .int 0, .int 0, .ref m57, .ref m58])), (m5, .inl (k5, 700, .inl f5))] U.heap ∧ va_K (dC, dI) vwCl [(k5, .byte)] U ∧ va_D (fun _ => True) [(h0, .inr (12, [.int 0, .ref m1, .ref m2, .ref m3, .ref m4, .ref m5, .int 4, .int 0, .int 0, .int 0, .int 0, .long 0, .int 0, .int 0, .int 0, .int (-1), .ref m16, .ref m17, .ref m18, .ref m19, .ref m20, .ref m21, .ref m22, .ref m23, .int 0, .int 0, .int 0, .ref m27, .ref m28, .ref m29, .ref m30, .ref m31, .ref m32, .ref m33, .ref m34, .ref m35, .ref m36, .ref m37, .ref m38, .ref m39, .ref m40, .ref m41, .ref m42, .int 0, .int 0, .int 0, .ref m46, .int 0, .int 0, .int 0, .int 0, .int 0, .int 0, .ref m53, .int 0, .int 0, .int 0, .ref m57, .ref m58])), (m5, .inl (k5, 700, .inl f5))])) (va_Qv (fun _ : Unit => True) (fun (_ : Unit) (t : State) => ∃ (e5 : Nat → Int32), va_P (dC, dI) vwCl [(h0, .inr (12, [.int 0, .ref m1, .ref m2, .ref m3, .ref m4, .ref m5, .int 8, .int 0, .int 0, .int 0, .int 0, .long 0, .int 0, .int 0, .int 0, .int (-1), .ref m16, .ref m17, .ref m18, .ref m19, .ref m20, .ref m21, .ref m22, .ref m23, .int 0, .int 0, .int 0, .ref m27, .ref m28, .ref m29, .ref m30, .ref m31, .ref m32, .ref m33, .ref m34, .ref m35, .ref m36, .ref m37, .ref m38, .ref m39, .ref m40, .ref m41, .ref m42, .int 0, .int 0, .int 0, .ref m46, .int 0, .int 0, .int 0, .int 0, .int 0, .int 0, .ref m53, .int 0, .int 0, .int 0, .ref m57, .ref m58])), (m5, .inl (k5, 700, .inl e5))] t.heap ∧ va_K (dC, dI) vwCl [(k5, .byte)] t ∧ va_D (va_A [(h0, .inr (12, [.int 0, .ref m1, .ref m2, .ref m3, .ref m4, .ref m5, .int 4, .int 0, .int 0, .int 0, .int 0, .long 0, .int 0, .int 0, .int 0, .int (-1), .ref m16, .ref m17, .ref m18, .ref m19, .ref m20, .ref m21, .ref m22, .ref m23, .int 0, .int 0, .int 0, .ref m27, .ref m28, .ref m29, .ref m30, .ref m31, .ref m32, .ref m33, .ref m34, .ref m35, .ref m36, .ref m37, .ref m38, .ref m39, .ref m40, .ref m41, .ref m42, .int 0, .int 0, .int 0, .ref m46, .int 0, .int 0, .int 0, .int 0, .int 0, .int 0, .ref m53, .int 0, .int 0, .int 0, .ref m57, .ref m58])), (m5, .inl (k5, 700, .inl f5))] sz) [(h0, .inr (12, [.int 0, .ref m1, .ref m2, .ref m3, .ref m4, .ref m5, .int 8, .int 0, .int 0, .int 0, .int 0, .long 0, .int 0, .int 0, .int 0, .int (-1), .ref m16, .ref m17, .ref m18, .ref m19, .ref m20, .ref m21, .ref m22, .ref m23, .int 0, .int 0, .int 0, .ref m27, .ref m28, .ref m29, .ref m30, .ref m31, .ref m32, .ref m33, .ref m34, .ref m35, .ref m36, .ref m37, .ref m38, .ref m39, .ref m40, .ref m41, .ref m42, .int 0, .int 0, .int 0, .ref m46, .int 0, .int 0, .int 0, .int 0, .int 0, .int 0, .ref m53, .int 0, .int 0, .int 0, .ref m57, .ref m58])), (m5, .inl (k5, 700, .inl e5))]) (va_A [(h0, .inr (12, [.int 0, .ref m1, .ref m2, .ref m3, .ref m4, .ref m5, .int 4, .int 0, .int 0, .int 0, .int 0, .long 0, .int 0, .int 0, .int 0, .int (-1), .ref m16, .ref m17, .ref m18, .ref m19, .ref m20, .ref m21, .ref m22, .ref m23, .int 0, .int 0, .int 0, .ref m27, .ref m28, .ref m29, .ref m30, .ref m31, .ref m32, .ref m33, .ref m34, .ref m35, .ref m36, .ref m37, .ref m38, .ref m39, .ref m40, .ref m41, .ref m42, .int 0, .int 0, .int 0, .ref m46, .int 0, .int 0, .int 0, .int 0, .int 0, .int 0, .ref m53, .int 0, .int 0, .int 0, .ref m57, .ref m58])), (m5, .inl (k5, 700, .inl f5))] sz)) 0 0 (va_A [(h0, .inr (12, [.int 0, .ref m1, .ref m2, .ref m3, .ref m4, .ref m5, .int 4, .int 0, .int 0, .int 0, .int 0, .long 0, .int 0, .int 0, .int 0, .int (-1), .ref m16, .ref m17, .ref m18, .ref m19, .ref m20, .ref m21, .ref m22, .ref m23, .int 0, .int 0, .int 0, .ref m27, .ref m28, .ref m29, .ref m30, .ref m31, .ref m32, .ref m33, .ref m34, .ref m35, .ref m36, .ref m37, .ref m38, .ref m39, .ref m40, .ref m41, .ref m42, .int 0, .int 0, .int 0, .ref m46, .int 0, .int 0, .int 0, .int 0, .int 0, .int 0, .ref m53, .int 0, .int 0, .int 0, .ref m57, .ref m58])), (m5, .inl (k5, 700, .inl f5))] sz) := by
  refine Met.ofW (cc := cX12_four) (maxL := 3) (ret := none) (by decide) rfl ?_
  intro p e s m args below meth c s₁ B hml hv
  obtain ⟨rfl, hsz, hP, hK, hD0⟩ := hv
  have hx := B.exec
  have hb := B.bytes
  have hr := B.returns
  have hts := atoms_spec (ws := wk_f_X12_four_4) B.pre
  have hown : s.vm.findClass RX12 = some m.cls := findClass_of_methodNamed B.named
  have hlocks := B.notSynchronized
  subst hsz
  have hD := hD0.self (sz := s.heap.size)
  generalize hAe : va_A [(h0, .inr (12, [.int 0, .ref m1, .ref m2, .ref m3, .ref m4, .ref m5, .int 4, .int 0, .int 0, .int 0, .int 0, .long 0, .int 0, .int 0, .int 0, .int (-1), .ref m16, .ref m17, .ref m18, .ref m19, .ref m20, .ref m21, .ref m22, .ref m23, .int 0, .int 0, .int 0, .ref m27, .ref m28, .ref m29, .ref m30, .ref m31, .ref m32, .ref m33, .ref m34, .ref m35, .ref m36, .ref m37, .ref m38, .ref m39, .ref m40, .ref m41, .ref m42, .int 0, .int 0, .int 0, .ref m46, .int 0, .int 0, .int 0, .int 0, .int 0, .int 0, .ref m53, .int 0, .int 0, .int 0, .ref m57, .ref m58])), (m5, .inl (k5, 700, .inl f5))] s.heap.size = A at hD ⊢
  have hA : ∀ q : Nat, s.heap.size ≤ q → A q := fun q h => by rw [← hAe]; exact Or.inr h
  have hS : va_S A s.heap s.heap [] := va_S.rf
  have hP : va_P (dC, dI) vwCl [(h0, .inr (12, [.int 0, .ref m1, .ref m2, .ref m3, .ref m4, .ref m5, .int 4, .int 0, .int 0, .int 0, .int 0, .long 0, .int 0, .int 0, .int 0, .int (-1), .ref m16, .ref m17, .ref m18, .ref m19, .ref m20, .ref m21, .ref m22, .ref m23, .int 0, .int 0, .int 0, .ref m27, .ref m28, .ref m29, .ref m30, .ref m31, .ref m32, .ref m33, .ref m34, .ref m35, .ref m36, .ref m37, .ref m38, .ref m39, .ref m40, .ref m41, .ref m42, .int 0, .int 0, .int 0, .ref m46, .int 0, .int 0, .int 0, .int 0, .int 0, .int 0, .ref m53, .int 0, .int 0, .int 0, .ref m57, .ref m58])), (m5, .inl (k5, 700, .inl f5))] s.heap := hP
  have hl := lv_entry ([.ref h0, .int p1]) (n := 3) (Nat.le_of_ble_eq_true rfl)
  rw [lg_entry_eq]
  generalize (lg_sl ([.ref h0, .int p1]) ++ List.replicate (3 - (lg_sl ([.ref h0, .int p1])).length) Slot.unset).toArray = ls at hl ⊢
  have hl : lv_has ls 3 [(0, .ref h0), (1, .int p1)] := hl
  refine lv_bipush (v := 24) hx hb dX12_four_0 (by decide) ?_
  refine lv_istore_n (lv' := [(2, .int 24), (0, .ref h0), (1, .int p1)]) hx hb dX12_four_2 rfl hl (by decide) rfl (fun ls hl => ?_)
  refine lv_iload_n hx hb dX12_four_3 rfl (lv_at hl 0 rfl) ?_
  refine lv_if_lt (tgt := 36) hx hb dX12_four_4 (by decide) (fun cz1 => ?_) (fun cz1 => ?_)
  · skip
    exact absurd cz1 (by decide)
  · skip
    refine lv_aload_n hx hb dX12_four_7 rfl (lv_at hl 1 rfl) ?_
    refine va_get (D := (dC, dI)) (ci := 12) (v := .ref m5) (C := RX12) (T := TX12) (N := 59) hx hb hts (fun w h => List.mem_cons_of_mem _ (List.mem_append_right _ (List.mem_append_left _ h))) hown hK hP 0 rfl rfl 5 (by decide) (hts (.fieldLink RX12 23 "SagMemoryModel" "tape" "[B") (wl_mem 0 rfl)) (fun _ h9 => h9) rfl dX12_four_8 ?_
    refine lv_aload_n hx hb dX12_four_11 rfl (lv_at hl 1 rfl) ?_
    refine va_get (D := (dC, dI)) (ci := 12) (v := .int 4) (C := RX12) (T := TX12) (N := 59) hx hb hts (fun w h => List.mem_cons_of_mem _ (List.mem_append_right _ (List.mem_append_left _ h))) hown hK hP 0 rfl rfl 6 (by decide) (hts (.fieldLink RX12 133 "SagMemoryModel" "taped" "I") (wl_mem 1 rfl)) (fun _ h9 => h9) rfl dX12_four_12 ?_
    refine lv_iload_n hx hb dX12_four_15 rfl (lv_at hl 2 rfl) ?_
    refine lv_iload_n hx hb dX12_four_16 rfl (lv_at hl 0 rfl) ?_
    refine lv_ishr hx hb dX12_four_17 ?_
    refine lv_topi (fun xz2 exz2 => ?_)
    refine lv_i2b hx hb dX12_four_18 rfl ?_
    refine lv_topi (fun xz3 exz3 => ?_)
    refine va_bast hx hb hK hP hD hS 1 0 rfl rfl (by unfold vp_in; decide) dX12_four_19 (fun H locs hP hD hS => ?_)
    have hP : va_P (dC, dI) vwCl [(h0, .inr (12, [.int 0, .ref m1, .ref m2, .ref m3, .ref m4, .ref m5, .int 4, .int 0, .int 0, .int 0, .int 0, .long 0, .int 0, .int 0, .int 0, .int (-1), .ref m16, .ref m17, .ref m18, .ref m19, .ref m20, .ref m21, .ref m22, .ref m23, .int 0, .int 0, .int 0, .ref m27, .ref m28, .ref m29, .ref m30, .ref m31, .ref m32, .ref m33, .ref m34, .ref m35, .ref m36, .ref m37, .ref m38, .ref m39, .ref m40, .ref m41, .ref m42, .int 0, .int 0, .int 0, .ref m46, .int 0, .int 0, .int 0, .int 0, .int 0, .int 0, .ref m53, .int 0, .int 0, .int 0, .ref m57, .ref m58])), (m5, .inl (k5, 700, .inl (upd f5 4 (vp_nar .byte xz3))))] H := hP
    have hD : va_D A [(h0, .inr (12, [.int 0, .ref m1, .ref m2, .ref m3, .ref m4, .ref m5, .int 4, .int 0, .int 0, .int 0, .int 0, .long 0, .int 0, .int 0, .int 0, .int (-1), .ref m16, .ref m17, .ref m18, .ref m19, .ref m20, .ref m21, .ref m22, .ref m23, .int 0, .int 0, .int 0, .ref m27, .ref m28, .ref m29, .ref m30, .ref m31, .ref m32, .ref m33, .ref m34, .ref m35, .ref m36, .ref m37, .ref m38, .ref m39, .ref m40, .ref m41, .ref m42, .int 0, .int 0, .int 0, .ref m46, .int 0, .int 0, .int 0, .int 0, .int 0, .int 0, .ref m53, .int 0, .int 0, .int 0, .ref m57, .ref m58])), (m5, .inl (k5, 700, .inl (upd f5 4 (vp_nar .byte xz3))))] := hD
    generalize (upd f5 4 (vp_nar .byte xz3)) = fz4 at hP hD
    refine lv_aload_n hx hb dX12_four_20 rfl (lv_at hl 1 rfl) ?_
    refine lv_dup hx hb dX12_four_21 rfl ?_
    refine va_get (D := (dC, dI)) (ci := 12) (v := .int 4) (C := RX12) (T := TX12) (N := 59) hx hb hts (fun w h => List.mem_cons_of_mem _ (List.mem_append_right _ (List.mem_append_left _ h))) hown hK hP 0 rfl rfl 6 (by decide) (hts (.fieldLink RX12 133 "SagMemoryModel" "taped" "I") (wl_mem 1 rfl)) (fun _ h9 => h9) rfl dX12_four_22 ?_
    refine lv_iconst (v := 1) hx hb dX12_four_25 (by decide) ?_
    refine lv_iadd hx hb dX12_four_26 ?_
    refine lv_topi (fun xz5 exz5 => ?_)
    obtain rfl : xz5 = 5 := exz5.trans (by decide)
    refine va_put (D := (dC, dI)) (ci := 12) (v := .int 5) (ty := .int) (C := RX12) (T := TX12) (N := 59) hx hb hts (fun w h => List.mem_cons_of_mem _ (List.mem_append_right _ (List.mem_append_left _ h))) tyX12 tyX12_ok nmX12 hown hK hP hD hS 0 rfl rfl 6 (by decide) (hts (.fieldLink RX12 133 "SagMemoryModel" "taped" "I") (wl_mem 1 rfl)) (fun _ h9 => h9) rfl (by decide +kernel) rfl rfl (Nat.le_of_ble_eq_true rfl) dX12_four_27 (fun H locs hP hD hS => ?_)
    have hP : va_P (dC, dI) vwCl [(h0, .inr (12, [.int 0, .ref m1, .ref m2, .ref m3, .ref m4, .ref m5, .int 5, .int 0, .int 0, .int 0, .int 0, .long 0, .int 0, .int 0, .int 0, .int (-1), .ref m16, .ref m17, .ref m18, .ref m19, .ref m20, .ref m21, .ref m22, .ref m23, .int 0, .int 0, .int 0, .ref m27, .ref m28, .ref m29, .ref m30, .ref m31, .ref m32, .ref m33, .ref m34, .ref m35, .ref m36, .ref m37, .ref m38, .ref m39, .ref m40, .ref m41, .ref m42, .int 0, .int 0, .int 0, .ref m46, .int 0, .int 0, .int 0, .int 0, .int 0, .int 0, .ref m53, .int 0, .int 0, .int 0, .ref m57, .ref m58])), (m5, .inl (k5, 700, .inl fz4))] H := hP
    have hD : va_D A [(h0, .inr (12, [.int 0, .ref m1, .ref m2, .ref m3, .ref m4, .ref m5, .int 5, .int 0, .int 0, .int 0, .int 0, .long 0, .int 0, .int 0, .int 0, .int (-1), .ref m16, .ref m17, .ref m18, .ref m19, .ref m20, .ref m21, .ref m22, .ref m23, .int 0, .int 0, .int 0, .ref m27, .ref m28, .ref m29, .ref m30, .ref m31, .ref m32, .ref m33, .ref m34, .ref m35, .ref m36, .ref m37, .ref m38, .ref m39, .ref m40, .ref m41, .ref m42, .int 0, .int 0, .int 0, .ref m46, .int 0, .int 0, .int 0, .int 0, .int 0, .int 0, .ref m53, .int 0, .int 0, .int 0, .ref m57, .ref m58])), (m5, .inl (k5, 700, .inl fz4))] := hD
    refine lv_iinc (v := 16) (lv' := [(2, .int 16), (0, .ref h0), (1, .int p1)]) hx hb dX12_four_30 hl (k := 0) rfl (by decide) (by decide) rfl (fun ls hl => ?_)
    refine lv_goto (tgt := 3) hx hb dX12_four_33 (by decide) ?_
    refine lv_iload_n hx hb dX12_four_3 rfl (lv_at hl 0 rfl) ?_
    refine lv_if_lt (tgt := 36) hx hb dX12_four_4 (by decide) (fun cz6 => ?_) (fun cz6 => ?_)
    · skip
      exact absurd cz6 (by decide)
    · skip
      refine lv_aload_n hx hb dX12_four_7 rfl (lv_at hl 1 rfl) ?_
      refine va_get (D := (dC, dI)) (ci := 12) (v := .ref m5) (C := RX12) (T := TX12) (N := 59) hx hb hts (fun w h => List.mem_cons_of_mem _ (List.mem_append_right _ (List.mem_append_left _ h))) hown hK hP 0 rfl rfl 5 (by decide) (hts (.fieldLink RX12 23 "SagMemoryModel" "tape" "[B") (wl_mem 0 rfl)) (fun _ h9 => h9) rfl dX12_four_8 ?_
      refine lv_aload_n hx hb dX12_four_11 rfl (lv_at hl 1 rfl) ?_
      refine va_get (D := (dC, dI)) (ci := 12) (v := .int 5) (C := RX12) (T := TX12) (N := 59) hx hb hts (fun w h => List.mem_cons_of_mem _ (List.mem_append_right _ (List.mem_append_left _ h))) hown hK hP 0 rfl rfl 6 (by decide) (hts (.fieldLink RX12 133 "SagMemoryModel" "taped" "I") (wl_mem 1 rfl)) (fun _ h9 => h9) rfl dX12_four_12 ?_
      refine lv_iload_n hx hb dX12_four_15 rfl (lv_at hl 2 rfl) ?_
      refine lv_iload_n hx hb dX12_four_16 rfl (lv_at hl 0 rfl) ?_
      refine lv_ishr hx hb dX12_four_17 ?_
      refine lv_topi (fun xz7 exz7 => ?_)
      refine lv_i2b hx hb dX12_four_18 rfl ?_
      refine lv_topi (fun xz8 exz8 => ?_)
      refine va_bast hx hb hK hP hD hS 1 0 rfl rfl (by unfold vp_in; decide) dX12_four_19 (fun H locs hP hD hS => ?_)
      have hP : va_P (dC, dI) vwCl [(h0, .inr (12, [.int 0, .ref m1, .ref m2, .ref m3, .ref m4, .ref m5, .int 5, .int 0, .int 0, .int 0, .int 0, .long 0, .int 0, .int 0, .int 0, .int (-1), .ref m16, .ref m17, .ref m18, .ref m19, .ref m20, .ref m21, .ref m22, .ref m23, .int 0, .int 0, .int 0, .ref m27, .ref m28, .ref m29, .ref m30, .ref m31, .ref m32, .ref m33, .ref m34, .ref m35, .ref m36, .ref m37, .ref m38, .ref m39, .ref m40, .ref m41, .ref m42, .int 0, .int 0, .int 0, .ref m46, .int 0, .int 0, .int 0, .int 0, .int 0, .int 0, .ref m53, .int 0, .int 0, .int 0, .ref m57, .ref m58])), (m5, .inl (k5, 700, .inl (upd fz4 5 (vp_nar .byte xz8))))] H := hP
      have hD : va_D A [(h0, .inr (12, [.int 0, .ref m1, .ref m2, .ref m3, .ref m4, .ref m5, .int 5, .int 0, .int 0, .int 0, .int 0, .long 0, .int 0, .int 0, .int 0, .int (-1), .ref m16, .ref m17, .ref m18, .ref m19, .ref m20, .ref m21, .ref m22, .ref m23, .int 0, .int 0, .int 0, .ref m27, .ref m28, .ref m29, .ref m30, .ref m31, .ref m32, .ref m33, .ref m34, .ref m35, .ref m36, .ref m37, .ref m38, .ref m39, .ref m40, .ref m41, .ref m42, .int 0, .int 0, .int 0, .ref m46, .int 0, .int 0, .int 0, .int 0, .int 0, .int 0, .ref m53, .int 0, .int 0, .int 0, .ref m57, .ref m58])), (m5, .inl (k5, 700, .inl (upd fz4 5 (vp_nar .byte xz8))))] := hD
      generalize (upd fz4 5 (vp_nar .byte xz8)) = fz9 at hP hD
      refine lv_aload_n hx hb dX12_four_20 rfl (lv_at hl 1 rfl) ?_
      refine lv_dup hx hb dX12_four_21 rfl ?_
      refine va_get (D := (dC, dI)) (ci := 12) (v := .int 5) (C := RX12) (T := TX12) (N := 59) hx hb hts (fun w h => List.mem_cons_of_mem _ (List.mem_append_right _ (List.mem_append_left _ h))) hown hK hP 0 rfl rfl 6 (by decide) (hts (.fieldLink RX12 133 "SagMemoryModel" "taped" "I") (wl_mem 1 rfl)) (fun _ h9 => h9) rfl dX12_four_22 ?_
      refine lv_iconst (v := 1) hx hb dX12_four_25 (by decide) ?_
      refine lv_iadd hx hb dX12_four_26 ?_
      refine lv_topi (fun xz10 exz10 => ?_)
      obtain rfl : xz10 = 6 := exz10.trans (by decide)
      refine va_put (D := (dC, dI)) (ci := 12) (v := .int 6) (ty := .int) (C := RX12) (T := TX12) (N := 59) hx hb hts (fun w h => List.mem_cons_of_mem _ (List.mem_append_right _ (List.mem_append_left _ h))) tyX12 tyX12_ok nmX12 hown hK hP hD hS 0 rfl rfl 6 (by decide) (hts (.fieldLink RX12 133 "SagMemoryModel" "taped" "I") (wl_mem 1 rfl)) (fun _ h9 => h9) rfl (by decide +kernel) rfl rfl (Nat.le_of_ble_eq_true rfl) dX12_four_27 (fun H locs hP hD hS => ?_)
      have hP : va_P (dC, dI) vwCl [(h0, .inr (12, [.int 0, .ref m1, .ref m2, .ref m3, .ref m4, .ref m5, .int 6, .int 0, .int 0, .int 0, .int 0, .long 0, .int 0, .int 0, .int 0, .int (-1), .ref m16, .ref m17, .ref m18, .ref m19, .ref m20, .ref m21, .ref m22, .ref m23, .int 0, .int 0, .int 0, .ref m27, .ref m28, .ref m29, .ref m30, .ref m31, .ref m32, .ref m33, .ref m34, .ref m35, .ref m36, .ref m37, .ref m38, .ref m39, .ref m40, .ref m41, .ref m42, .int 0, .int 0, .int 0, .ref m46, .int 0, .int 0, .int 0, .int 0, .int 0, .int 0, .ref m53, .int 0, .int 0, .int 0, .ref m57, .ref m58])), (m5, .inl (k5, 700, .inl fz9))] H := hP
      have hD : va_D A [(h0, .inr (12, [.int 0, .ref m1, .ref m2, .ref m3, .ref m4, .ref m5, .int 6, .int 0, .int 0, .int 0, .int 0, .long 0, .int 0, .int 0, .int 0, .int (-1), .ref m16, .ref m17, .ref m18, .ref m19, .ref m20, .ref m21, .ref m22, .ref m23, .int 0, .int 0, .int 0, .ref m27, .ref m28, .ref m29, .ref m30, .ref m31, .ref m32, .ref m33, .ref m34, .ref m35, .ref m36, .ref m37, .ref m38, .ref m39, .ref m40, .ref m41, .ref m42, .int 0, .int 0, .int 0, .ref m46, .int 0, .int 0, .int 0, .int 0, .int 0, .int 0, .ref m53, .int 0, .int 0, .int 0, .ref m57, .ref m58])), (m5, .inl (k5, 700, .inl fz9))] := hD
      refine lv_iinc (v := 8) (lv' := [(2, .int 8), (0, .ref h0), (1, .int p1)]) hx hb dX12_four_30 hl (k := 0) rfl (by decide) (by decide) rfl (fun ls hl => ?_)
      refine lv_goto (tgt := 3) hx hb dX12_four_33 (by decide) ?_
      refine lv_iload_n hx hb dX12_four_3 rfl (lv_at hl 0 rfl) ?_
      refine lv_if_lt (tgt := 36) hx hb dX12_four_4 (by decide) (fun cz11 => ?_) (fun cz11 => ?_)
      · skip
        exact absurd cz11 (by decide)
      · skip
        refine lv_aload_n hx hb dX12_four_7 rfl (lv_at hl 1 rfl) ?_
        refine va_get (D := (dC, dI)) (ci := 12) (v := .ref m5) (C := RX12) (T := TX12) (N := 59) hx hb hts (fun w h => List.mem_cons_of_mem _ (List.mem_append_right _ (List.mem_append_left _ h))) hown hK hP 0 rfl rfl 5 (by decide) (hts (.fieldLink RX12 23 "SagMemoryModel" "tape" "[B") (wl_mem 0 rfl)) (fun _ h9 => h9) rfl dX12_four_8 ?_
        refine lv_aload_n hx hb dX12_four_11 rfl (lv_at hl 1 rfl) ?_
        refine va_get (D := (dC, dI)) (ci := 12) (v := .int 6) (C := RX12) (T := TX12) (N := 59) hx hb hts (fun w h => List.mem_cons_of_mem _ (List.mem_append_right _ (List.mem_append_left _ h))) hown hK hP 0 rfl rfl 6 (by decide) (hts (.fieldLink RX12 133 "SagMemoryModel" "taped" "I") (wl_mem 1 rfl)) (fun _ h9 => h9) rfl dX12_four_12 ?_
        refine lv_iload_n hx hb dX12_four_15 rfl (lv_at hl 2 rfl) ?_
        refine lv_iload_n hx hb dX12_four_16 rfl (lv_at hl 0 rfl) ?_
        refine lv_ishr hx hb dX12_four_17 ?_
        refine lv_topi (fun xz12 exz12 => ?_)
        refine lv_i2b hx hb dX12_four_18 rfl ?_
        refine lv_topi (fun xz13 exz13 => ?_)
        refine va_bast hx hb hK hP hD hS 1 0 rfl rfl (by unfold vp_in; decide) dX12_four_19 (fun H locs hP hD hS => ?_)
        have hP : va_P (dC, dI) vwCl [(h0, .inr (12, [.int 0, .ref m1, .ref m2, .ref m3, .ref m4, .ref m5, .int 6, .int 0, .int 0, .int 0, .int 0, .long 0, .int 0, .int 0, .int 0, .int (-1), .ref m16, .ref m17, .ref m18, .ref m19, .ref m20, .ref m21, .ref m22, .ref m23, .int 0, .int 0, .int 0, .ref m27, .ref m28, .ref m29, .ref m30, .ref m31, .ref m32, .ref m33, .ref m34, .ref m35, .ref m36, .ref m37, .ref m38, .ref m39, .ref m40, .ref m41, .ref m42, .int 0, .int 0, .int 0, .ref m46, .int 0, .int 0, .int 0, .int 0, .int 0, .int 0, .ref m53, .int 0, .int 0, .int 0, .ref m57, .ref m58])), (m5, .inl (k5, 700, .inl (upd fz9 6 (vp_nar .byte xz13))))] H := hP
        have hD : va_D A [(h0, .inr (12, [.int 0, .ref m1, .ref m2, .ref m3, .ref m4, .ref m5, .int 6, .int 0, .int 0, .int 0, .int 0, .long 0, .int 0, .int 0, .int 0, .int (-1), .ref m16, .ref m17, .ref m18, .ref m19, .ref m20, .ref m21, .ref m22, .ref m23, .int 0, .int 0, .int 0, .ref m27, .ref m28, .ref m29, .ref m30, .ref m31, .ref m32, .ref m33, .ref m34, .ref m35, .ref m36, .ref m37, .ref m38, .ref m39, .ref m40, .ref m41, .ref m42, .int 0, .int 0, .int 0, .ref m46, .int 0, .int 0, .int 0, .int 0, .int 0, .int 0, .ref m53, .int 0, .int 0, .int 0, .ref m57, .ref m58])), (m5, .inl (k5, 700, .inl (upd fz9 6 (vp_nar .byte xz13))))] := hD
        generalize (upd fz9 6 (vp_nar .byte xz13)) = fz14 at hP hD
        refine lv_aload_n hx hb dX12_four_20 rfl (lv_at hl 1 rfl) ?_
        refine lv_dup hx hb dX12_four_21 rfl ?_
        refine va_get (D := (dC, dI)) (ci := 12) (v := .int 6) (C := RX12) (T := TX12) (N := 59) hx hb hts (fun w h => List.mem_cons_of_mem _ (List.mem_append_right _ (List.mem_append_left _ h))) hown hK hP 0 rfl rfl 6 (by decide) (hts (.fieldLink RX12 133 "SagMemoryModel" "taped" "I") (wl_mem 1 rfl)) (fun _ h9 => h9) rfl dX12_four_22 ?_
        refine lv_iconst (v := 1) hx hb dX12_four_25 (by decide) ?_
        refine lv_iadd hx hb dX12_four_26 ?_
        refine lv_topi (fun xz15 exz15 => ?_)
        obtain rfl : xz15 = 7 := exz15.trans (by decide)
        refine va_put (D := (dC, dI)) (ci := 12) (v := .int 7) (ty := .int) (C := RX12) (T := TX12) (N := 59) hx hb hts (fun w h => List.mem_cons_of_mem _ (List.mem_append_right _ (List.mem_append_left _ h))) tyX12 tyX12_ok nmX12 hown hK hP hD hS 0 rfl rfl 6 (by decide) (hts (.fieldLink RX12 133 "SagMemoryModel" "taped" "I") (wl_mem 1 rfl)) (fun _ h9 => h9) rfl (by decide +kernel) rfl rfl (Nat.le_of_ble_eq_true rfl) dX12_four_27 (fun H locs hP hD hS => ?_)
        have hP : va_P (dC, dI) vwCl [(h0, .inr (12, [.int 0, .ref m1, .ref m2, .ref m3, .ref m4, .ref m5, .int 7, .int 0, .int 0, .int 0, .int 0, .long 0, .int 0, .int 0, .int 0, .int (-1), .ref m16, .ref m17, .ref m18, .ref m19, .ref m20, .ref m21, .ref m22, .ref m23, .int 0, .int 0, .int 0, .ref m27, .ref m28, .ref m29, .ref m30, .ref m31, .ref m32, .ref m33, .ref m34, .ref m35, .ref m36, .ref m37, .ref m38, .ref m39, .ref m40, .ref m41, .ref m42, .int 0, .int 0, .int 0, .ref m46, .int 0, .int 0, .int 0, .int 0, .int 0, .int 0, .ref m53, .int 0, .int 0, .int 0, .ref m57, .ref m58])), (m5, .inl (k5, 700, .inl fz14))] H := hP
        have hD : va_D A [(h0, .inr (12, [.int 0, .ref m1, .ref m2, .ref m3, .ref m4, .ref m5, .int 7, .int 0, .int 0, .int 0, .int 0, .long 0, .int 0, .int 0, .int 0, .int (-1), .ref m16, .ref m17, .ref m18, .ref m19, .ref m20, .ref m21, .ref m22, .ref m23, .int 0, .int 0, .int 0, .ref m27, .ref m28, .ref m29, .ref m30, .ref m31, .ref m32, .ref m33, .ref m34, .ref m35, .ref m36, .ref m37, .ref m38, .ref m39, .ref m40, .ref m41, .ref m42, .int 0, .int 0, .int 0, .ref m46, .int 0, .int 0, .int 0, .int 0, .int 0, .int 0, .ref m53, .int 0, .int 0, .int 0, .ref m57, .ref m58])), (m5, .inl (k5, 700, .inl fz14))] := hD
        refine lv_iinc (v := 0) (lv' := [(2, .int 0), (0, .ref h0), (1, .int p1)]) hx hb dX12_four_30 hl (k := 0) rfl (by decide) (by decide) rfl (fun ls hl => ?_)
        refine lv_goto (tgt := 3) hx hb dX12_four_33 (by decide) ?_
        refine lv_iload_n hx hb dX12_four_3 rfl (lv_at hl 0 rfl) ?_
        refine lv_if_lt (tgt := 36) hx hb dX12_four_4 (by decide) (fun cz16 => ?_) (fun cz16 => ?_)
        · skip
          exact absurd cz16 (by decide)
        · skip
          refine lv_aload_n hx hb dX12_four_7 rfl (lv_at hl 1 rfl) ?_
          refine va_get (D := (dC, dI)) (ci := 12) (v := .ref m5) (C := RX12) (T := TX12) (N := 59) hx hb hts (fun w h => List.mem_cons_of_mem _ (List.mem_append_right _ (List.mem_append_left _ h))) hown hK hP 0 rfl rfl 5 (by decide) (hts (.fieldLink RX12 23 "SagMemoryModel" "tape" "[B") (wl_mem 0 rfl)) (fun _ h9 => h9) rfl dX12_four_8 ?_
          refine lv_aload_n hx hb dX12_four_11 rfl (lv_at hl 1 rfl) ?_
          refine va_get (D := (dC, dI)) (ci := 12) (v := .int 7) (C := RX12) (T := TX12) (N := 59) hx hb hts (fun w h => List.mem_cons_of_mem _ (List.mem_append_right _ (List.mem_append_left _ h))) hown hK hP 0 rfl rfl 6 (by decide) (hts (.fieldLink RX12 133 "SagMemoryModel" "taped" "I") (wl_mem 1 rfl)) (fun _ h9 => h9) rfl dX12_four_12 ?_
          refine lv_iload_n hx hb dX12_four_15 rfl (lv_at hl 2 rfl) ?_
          refine lv_iload_n hx hb dX12_four_16 rfl (lv_at hl 0 rfl) ?_
          refine lv_ishr hx hb dX12_four_17 ?_
          refine lv_topi (fun xz17 exz17 => ?_)
          refine lv_i2b hx hb dX12_four_18 rfl ?_
          refine lv_topi (fun xz18 exz18 => ?_)
          refine va_bast hx hb hK hP hD hS 1 0 rfl rfl (by unfold vp_in; decide) dX12_four_19 (fun H locs hP hD hS => ?_)
          have hP : va_P (dC, dI) vwCl [(h0, .inr (12, [.int 0, .ref m1, .ref m2, .ref m3, .ref m4, .ref m5, .int 7, .int 0, .int 0, .int 0, .int 0, .long 0, .int 0, .int 0, .int 0, .int (-1), .ref m16, .ref m17, .ref m18, .ref m19, .ref m20, .ref m21, .ref m22, .ref m23, .int 0, .int 0, .int 0, .ref m27, .ref m28, .ref m29, .ref m30, .ref m31, .ref m32, .ref m33, .ref m34, .ref m35, .ref m36, .ref m37, .ref m38, .ref m39, .ref m40, .ref m41, .ref m42, .int 0, .int 0, .int 0, .ref m46, .int 0, .int 0, .int 0, .int 0, .int 0, .int 0, .ref m53, .int 0, .int 0, .int 0, .ref m57, .ref m58])), (m5, .inl (k5, 700, .inl (upd fz14 7 (vp_nar .byte xz18))))] H := hP
          have hD : va_D A [(h0, .inr (12, [.int 0, .ref m1, .ref m2, .ref m3, .ref m4, .ref m5, .int 7, .int 0, .int 0, .int 0, .int 0, .long 0, .int 0, .int 0, .int 0, .int (-1), .ref m16, .ref m17, .ref m18, .ref m19, .ref m20, .ref m21, .ref m22, .ref m23, .int 0, .int 0, .int 0, .ref m27, .ref m28, .ref m29, .ref m30, .ref m31, .ref m32, .ref m33, .ref m34, .ref m35, .ref m36, .ref m37, .ref m38, .ref m39, .ref m40, .ref m41, .ref m42, .int 0, .int 0, .int 0, .ref m46, .int 0, .int 0, .int 0, .int 0, .int 0, .int 0, .ref m53, .int 0, .int 0, .int 0, .ref m57, .ref m58])), (m5, .inl (k5, 700, .inl (upd fz14 7 (vp_nar .byte xz18))))] := hD
          generalize (upd fz14 7 (vp_nar .byte xz18)) = fz19 at hP hD
          refine lv_aload_n hx hb dX12_four_20 rfl (lv_at hl 1 rfl) ?_
          refine lv_dup hx hb dX12_four_21 rfl ?_
          refine va_get (D := (dC, dI)) (ci := 12) (v := .int 7) (C := RX12) (T := TX12) (N := 59) hx hb hts (fun w h => List.mem_cons_of_mem _ (List.mem_append_right _ (List.mem_append_left _ h))) hown hK hP 0 rfl rfl 6 (by decide) (hts (.fieldLink RX12 133 "SagMemoryModel" "taped" "I") (wl_mem 1 rfl)) (fun _ h9 => h9) rfl dX12_four_22 ?_
          refine lv_iconst (v := 1) hx hb dX12_four_25 (by decide) ?_
          refine lv_iadd hx hb dX12_four_26 ?_
          refine lv_topi (fun xz20 exz20 => ?_)
          obtain rfl : xz20 = 8 := exz20.trans (by decide)
          refine va_put (D := (dC, dI)) (ci := 12) (v := .int 8) (ty := .int) (C := RX12) (T := TX12) (N := 59) hx hb hts (fun w h => List.mem_cons_of_mem _ (List.mem_append_right _ (List.mem_append_left _ h))) tyX12 tyX12_ok nmX12 hown hK hP hD hS 0 rfl rfl 6 (by decide) (hts (.fieldLink RX12 133 "SagMemoryModel" "taped" "I") (wl_mem 1 rfl)) (fun _ h9 => h9) rfl (by decide +kernel) rfl rfl (Nat.le_of_ble_eq_true rfl) dX12_four_27 (fun H locs hP hD hS => ?_)
          have hP : va_P (dC, dI) vwCl [(h0, .inr (12, [.int 0, .ref m1, .ref m2, .ref m3, .ref m4, .ref m5, .int 8, .int 0, .int 0, .int 0, .int 0, .long 0, .int 0, .int 0, .int 0, .int (-1), .ref m16, .ref m17, .ref m18, .ref m19, .ref m20, .ref m21, .ref m22, .ref m23, .int 0, .int 0, .int 0, .ref m27, .ref m28, .ref m29, .ref m30, .ref m31, .ref m32, .ref m33, .ref m34, .ref m35, .ref m36, .ref m37, .ref m38, .ref m39, .ref m40, .ref m41, .ref m42, .int 0, .int 0, .int 0, .ref m46, .int 0, .int 0, .int 0, .int 0, .int 0, .int 0, .ref m53, .int 0, .int 0, .int 0, .ref m57, .ref m58])), (m5, .inl (k5, 700, .inl fz19))] H := hP
          have hD : va_D A [(h0, .inr (12, [.int 0, .ref m1, .ref m2, .ref m3, .ref m4, .ref m5, .int 8, .int 0, .int 0, .int 0, .int 0, .long 0, .int 0, .int 0, .int 0, .int (-1), .ref m16, .ref m17, .ref m18, .ref m19, .ref m20, .ref m21, .ref m22, .ref m23, .int 0, .int 0, .int 0, .ref m27, .ref m28, .ref m29, .ref m30, .ref m31, .ref m32, .ref m33, .ref m34, .ref m35, .ref m36, .ref m37, .ref m38, .ref m39, .ref m40, .ref m41, .ref m42, .int 0, .int 0, .int 0, .ref m46, .int 0, .int 0, .int 0, .int 0, .int 0, .int 0, .ref m53, .int 0, .int 0, .int 0, .ref m57, .ref m58])), (m5, .inl (k5, 700, .inl fz19))] := hD
          refine lv_iinc (v := (-8)) (lv' := [(2, .int (-8)), (0, .ref h0), (1, .int p1)]) hx hb dX12_four_30 hl (k := 0) rfl (by decide) (by decide) rfl (fun ls hl => ?_)
          refine lv_goto (tgt := 3) hx hb dX12_four_33 (by decide) ?_
          refine lv_iload_n hx hb dX12_four_3 rfl (lv_at hl 0 rfl) ?_
          refine lv_if_lt (tgt := 36) hx hb dX12_four_4 (by decide) (fun cz21 => ?_) (fun cz21 => ?_)
          · skip
            have hP9 := hP.sub (ws' := [(h0, .inr (12, [.int 0, .ref m1, .ref m2, .ref m3, .ref m4, .ref m5, .int 8, .int 0, .int 0, .int 0, .int 0, .long 0, .int 0, .int 0, .int 0, .int (-1), .ref m16, .ref m17, .ref m18, .ref m19, .ref m20, .ref m21, .ref m22, .ref m23, .int 0, .int 0, .int 0, .ref m27, .ref m28, .ref m29, .ref m30, .ref m31, .ref m32, .ref m33, .ref m34, .ref m35, .ref m36, .ref m37, .ref m38, .ref m39, .ref m40, .ref m41, .ref m42, .int 0, .int 0, .int 0, .ref m46, .int 0, .int 0, .int 0, .int 0, .int 0, .int 0, .ref m53, .int 0, .int 0, .int 0, .ref m57, .ref m58])), (m5, .inl (k5, 700, .inl fz19))]) [0, 1] rfl
            have hD9 := hD.sub (ws' := [(h0, .inr (12, [.int 0, .ref m1, .ref m2, .ref m3, .ref m4, .ref m5, .int 8, .int 0, .int 0, .int 0, .int 0, .long 0, .int 0, .int 0, .int 0, .int (-1), .ref m16, .ref m17, .ref m18, .ref m19, .ref m20, .ref m21, .ref m22, .ref m23, .int 0, .int 0, .int 0, .ref m27, .ref m28, .ref m29, .ref m30, .ref m31, .ref m32, .ref m33, .ref m34, .ref m35, .ref m36, .ref m37, .ref m38, .ref m39, .ref m40, .ref m41, .ref m42, .int 0, .int 0, .int 0, .ref m46, .int 0, .int 0, .int 0, .int 0, .int 0, .int 0, .ref m53, .int 0, .int 0, .int 0, .ref m57, .ref m58])), (m5, .inl (k5, 700, .inl fz19))]) [0, 1] (by decide) rfl
            have hK9 := hK.sub (tys' := [(k5, .byte)]) [0] rfl
            exact W.vret hx hb hr (fun t ht hW => ⟨⟨(), rfl, trivial, fz19, by rw [ht]; exact hP9, va_K.moved hW.alike hK9, hD9⟩, hS.F ht⟩) hS.2.2 dX12_four_36
          · skip
            exact absurd cz21 (by decide)
def wk_f_X12_four_8 : List Cond := .code yX12_four cX12_four 3 none :: ([.fieldLink RX12 23 "SagMemoryModel" "tape" "[B", .fieldLink RX12 133 "SagMemoryModel" "taped" "I"] ++ (wsX120 ++ []))
theorem wkg_f_X12_four_8 : wk_f_X12_four_8.all goodWord = true := by decide +kernel
set_option maxHeartbeats 4000000 in
set_option maxRecDepth 100000 in
theorem f_X12_four_8 (l : Launch) (dC : Nat → ClassId) (dI : Nat → Nat → Nat) (sz : Nat) (h0 : Nat) (m1 : Nat) (m2 : Nat) (m3 : Nat) (m4 : Nat) (m5 : Nat) (m16 : Nat) (m17 : Nat) (m18 : Nat) (m19 : Nat) (m20 : Nat) (m21 : Nat) (m22 : Nat) (m23 : Nat) (m27 : Nat) (m28 : Nat) (m29 : Nat) (m30 : Nat) (m31 : Nat) (m32 : Nat) (m33 : Nat) (m34 : Nat) (m35 : Nat) (m36 : Nat) (m37 : Nat) (m38 : Nat) (m39 : Nat) (m40 : Nat) (m41 : Nat) (m42 : Nat) (m46 : Nat) (m53 : Nat) (m57 : Nat) (m58 : Nat) (k5 : ClassId) (f5 : Nat → Int32) (p1 : Int32) : Met l yX12_four wk_f_X12_four_8 ({ frames := 0, cells := 0, slots := 0, locals := 0 }) (va_Pc [.ref h0, .int p1] (fun U => U.heap.size = sz ∧ va_P (dC, dI) vwCl [(h0, .inr (12, [.int 0, .ref m1, .ref m2, .ref m3, .ref m4, .ref m5, .int 8, .int 0, .int 0, .int 0, .int 0, .long 0, .int 0, .int 0, .int 0, .int (-1), .ref m16, .ref m17, .ref m18, .ref m19, .ref m20, .ref m21, .ref m22, .ref m23, .int 0, .int 0, .int 0, .ref m27, .ref m28, .ref m29, .ref m30, .ref m31, .ref m32, .ref m33, .ref m34, .ref m35, .ref m36, .ref m37, .ref m38, .ref m39, .ref m40, .ref m41, .ref m42, .int 0, .int 0, .int 0, .ref m46, .int 0, .int 0, .int 0, .int 0, .int 0, .int 0, .ref m53, .int 0, .int 0, .int 0, .ref m57, .ref m58])), (m5, .inl (k5, 700, .inl f5))] U.heap ∧ va_K (dC, dI) vwCl [(k5, .byte)] U ∧ va_D (fun _ => True) [(h0, .inr (12, [.int 0, .ref m1, .ref m2, .ref m3, .ref m4, .ref m5, .int 8, .int 0, .int 0, .int 0, .int 0, .long 0, .int 0, .int 0, .int 0, .int (-1), .ref m16, .ref m17, .ref m18, .ref m19, .ref m20, .ref m21, .ref m22, .ref m23, .int 0, .int 0, .int 0, .ref m27, .ref m28, .ref m29, .ref m30, .ref m31, .ref m32, .ref m33, .ref m34, .ref m35, .ref m36, .ref m37, .ref m38, .ref m39, .ref m40, .ref m41, .ref m42, .int 0, .int 0, .int 0, .ref m46, .int 0, .int 0, .int 0, .int 0, .int 0, .int 0, .ref m53, .int 0, .int 0, .int 0, .ref m57, .ref m58])), (m5, .inl (k5, 700, .inl f5))])) (va_Qv (fun _ : Unit => True) (fun (_ : Unit) (t : State) => ∃ (e5 : Nat → Int32), va_P (dC, dI) vwCl [(h0, .inr (12, [.int 0, .ref m1, .ref m2, .ref m3, .ref m4, .ref m5, .int 12, .int 0, .int 0, .int 0, .int 0, .long 0, .int 0, .int 0, .int 0, .int (-1), .ref m16, .ref m17, .ref m18, .ref m19, .ref m20, .ref m21, .ref m22, .ref m23, .int 0, .int 0, .int 0, .ref m27, .ref m28, .ref m29, .ref m30, .ref m31, .ref m32, .ref m33, .ref m34, .ref m35, .ref m36, .ref m37, .ref m38, .ref m39, .ref m40, .ref m41, .ref m42, .int 0, .int 0, .int 0, .ref m46, .int 0, .int 0, .int 0, .int 0, .int 0, .int 0, .ref m53, .int 0, .int 0, .int 0, .ref m57, .ref m58])), (m5, .inl (k5, 700, .inl e5))] t.heap ∧ va_K (dC, dI) vwCl [(k5, .byte)] t ∧ va_D (va_A [(h0, .inr (12, [.int 0, .ref m1, .ref m2, .ref m3, .ref m4, .ref m5, .int 8, .int 0, .int 0, .int 0, .int 0, .long 0, .int 0, .int 0, .int 0, .int (-1), .ref m16, .ref m17, .ref m18, .ref m19, .ref m20, .ref m21, .ref m22, .ref m23, .int 0, .int 0, .int 0, .ref m27, .ref m28, .ref m29, .ref m30, .ref m31, .ref m32, .ref m33, .ref m34, .ref m35, .ref m36, .ref m37, .ref m38, .ref m39, .ref m40, .ref m41, .ref m42, .int 0, .int 0, .int 0, .ref m46, .int 0, .int 0, .int 0, .int 0, .int 0, .int 0, .ref m53, .int 0, .int 0, .int 0, .ref m57, .ref m58])), (m5, .inl (k5, 700, .inl f5))] sz) [(h0, .inr (12, [.int 0, .ref m1, .ref m2, .ref m3, .ref m4, .ref m5, .int 12, .int 0, .int 0, .int 0, .int 0, .long 0, .int 0, .int 0, .int 0, .int (-1), .ref m16, .ref m17, .ref m18, .ref m19, .ref m20, .ref m21, .ref m22, .ref m23, .int 0, .int 0, .int 0, .ref m27, .ref m28, .ref m29, .ref m30, .ref m31, .ref m32, .ref m33, .ref m34, .ref m35, .ref m36, .ref m37, .ref m38, .ref m39, .ref m40, .ref m41, .ref m42, .int 0, .int 0, .int 0, .ref m46, .int 0, .int 0, .int 0, .int 0, .int 0, .int 0, .ref m53, .int 0, .int 0, .int 0, .ref m57, .ref m58])), (m5, .inl (k5, 700, .inl e5))]) (va_A [(h0, .inr (12, [.int 0, .ref m1, .ref m2, .ref m3, .ref m4, .ref m5, .int 8, .int 0, .int 0, .int 0, .int 0, .long 0, .int 0, .int 0, .int 0, .int (-1), .ref m16, .ref m17, .ref m18, .ref m19, .ref m20, .ref m21, .ref m22, .ref m23, .int 0, .int 0, .int 0, .ref m27, .ref m28, .ref m29, .ref m30, .ref m31, .ref m32, .ref m33, .ref m34, .ref m35, .ref m36, .ref m37, .ref m38, .ref m39, .ref m40, .ref m41, .ref m42, .int 0, .int 0, .int 0, .ref m46, .int 0, .int 0, .int 0, .int 0, .int 0, .int 0, .ref m53, .int 0, .int 0, .int 0, .ref m57, .ref m58])), (m5, .inl (k5, 700, .inl f5))] sz)) 0 0 (va_A [(h0, .inr (12, [.int 0, .ref m1, .ref m2, .ref m3, .ref m4, .ref m5, .int 8, .int 0, .int 0, .int 0, .int 0, .long 0, .int 0, .int 0, .int 0, .int (-1), .ref m16, .ref m17, .ref m18, .ref m19, .ref m20, .ref m21, .ref m22, .ref m23, .int 0, .int 0, .int 0, .ref m27, .ref m28, .ref m29, .ref m30, .ref m31, .ref m32, .ref m33, .ref m34, .ref m35, .ref m36, .ref m37, .ref m38, .ref m39, .ref m40, .ref m41, .ref m42, .int 0, .int 0, .int 0, .ref m46, .int 0, .int 0, .int 0, .int 0, .int 0, .int 0, .ref m53, .int 0, .int 0, .int 0, .ref m57, .ref m58])), (m5, .inl (k5, 700, .inl f5))] sz) := by
  refine Met.ofW (cc := cX12_four) (maxL := 3) (ret := none) (by decide) rfl ?_
  intro p e s m args below meth c s₁ B hml hv
  obtain ⟨rfl, hsz, hP, hK, hD0⟩ := hv
  have hx := B.exec
  have hb := B.bytes
  have hr := B.returns
  have hts := atoms_spec (ws := wk_f_X12_four_8) B.pre
  have hown : s.vm.findClass RX12 = some m.cls := findClass_of_methodNamed B.named
  have hlocks := B.notSynchronized
  subst hsz
  have hD := hD0.self (sz := s.heap.size)
  generalize hAe : va_A [(h0, .inr (12, [.int 0, .ref m1, .ref m2, .ref m3, .ref m4, .ref m5, .int 8, .int 0, .int 0, .int 0, .int 0, .long 0, .int 0, .int 0, .int 0, .int (-1), .ref m16, .ref m17, .ref m18, .ref m19, .ref m20, .ref m21, .ref m22, .ref m23, .int 0, .int 0, .int 0, .ref m27, .ref m28, .ref m29, .ref m30, .ref m31, .ref m32, .ref m33, .ref m34, .ref m35, .ref m36, .ref m37, .ref m38, .ref m39, .ref m40, .ref m41, .ref m42, .int 0, .int 0, .int 0, .ref m46, .int 0, .int 0, .int 0, .int 0, .int 0, .int 0, .ref m53, .int 0, .int 0, .int 0, .ref m57, .ref m58])), (m5, .inl (k5, 700, .inl f5))] s.heap.size = A at hD ⊢
  have hA : ∀ q : Nat, s.heap.size ≤ q → A q := fun q h => by rw [← hAe]; exact Or.inr h
  have hS : va_S A s.heap s.heap [] := va_S.rf
  have hP : va_P (dC, dI) vwCl [(h0, .inr (12, [.int 0, .ref m1, .ref m2, .ref m3, .ref m4, .ref m5, .int 8, .int 0, .int 0, .int 0, .int 0, .long 0, .int 0, .int 0, .int 0, .int (-1), .ref m16, .ref m17, .ref m18, .ref m19, .ref m20, .ref m21, .ref m22, .ref m23, .int 0, .int 0, .int 0, .ref m27, .ref m28, .ref m29, .ref m30, .ref m31, .ref m32, .ref m33, .ref m34, .ref m35, .ref m36, .ref m37, .ref m38, .ref m39, .ref m40, .ref m41, .ref m42, .int 0, .int 0, .int 0, .ref m46, .int 0, .int 0, .int 0, .int 0, .int 0, .int 0, .ref m53, .int 0, .int 0, .int 0, .ref m57, .ref m58])), (m5, .inl (k5, 700, .inl f5))] s.heap := hP
  have hl := lv_entry ([.ref h0, .int p1]) (n := 3) (Nat.le_of_ble_eq_true rfl)
  rw [lg_entry_eq]
  generalize (lg_sl ([.ref h0, .int p1]) ++ List.replicate (3 - (lg_sl ([.ref h0, .int p1])).length) Slot.unset).toArray = ls at hl ⊢
  have hl : lv_has ls 3 [(0, .ref h0), (1, .int p1)] := hl
  refine lv_bipush (v := 24) hx hb dX12_four_0 (by decide) ?_
  refine lv_istore_n (lv' := [(2, .int 24), (0, .ref h0), (1, .int p1)]) hx hb dX12_four_2 rfl hl (by decide) rfl (fun ls hl => ?_)
  refine lv_iload_n hx hb dX12_four_3 rfl (lv_at hl 0 rfl) ?_
  refine lv_if_lt (tgt := 36) hx hb dX12_four_4 (by decide) (fun cz1 => ?_) (fun cz1 => ?_)
  · skip
    exact absurd cz1 (by decide)
  · skip
    refine lv_aload_n hx hb dX12_four_7 rfl (lv_at hl 1 rfl) ?_
    refine va_get (D := (dC, dI)) (ci := 12) (v := .ref m5) (C := RX12) (T := TX12) (N := 59) hx hb hts (fun w h => List.mem_cons_of_mem _ (List.mem_append_right _ (List.mem_append_left _ h))) hown hK hP 0 rfl rfl 5 (by decide) (hts (.fieldLink RX12 23 "SagMemoryModel" "tape" "[B") (wl_mem 0 rfl)) (fun _ h9 => h9) rfl dX12_four_8 ?_
    refine lv_aload_n hx hb dX12_four_11 rfl (lv_at hl 1 rfl) ?_
    refine va_get (D := (dC, dI)) (ci := 12) (v := .int 8) (C := RX12) (T := TX12) (N := 59) hx hb hts (fun w h => List.mem_cons_of_mem _ (List.mem_append_right _ (List.mem_append_left _ h))) hown hK hP 0 rfl rfl 6 (by decide) (hts (.fieldLink RX12 133 "SagMemoryModel" "taped" "I") (wl_mem 1 rfl)) (fun _ h9 => h9) rfl dX12_four_12 ?_
    refine lv_iload_n hx hb dX12_four_15 rfl (lv_at hl 2 rfl) ?_
    refine lv_iload_n hx hb dX12_four_16 rfl (lv_at hl 0 rfl) ?_
    refine lv_ishr hx hb dX12_four_17 ?_
    refine lv_topi (fun xz2 exz2 => ?_)
    refine lv_i2b hx hb dX12_four_18 rfl ?_
    refine lv_topi (fun xz3 exz3 => ?_)
    refine va_bast hx hb hK hP hD hS 1 0 rfl rfl (by unfold vp_in; decide) dX12_four_19 (fun H locs hP hD hS => ?_)
    have hP : va_P (dC, dI) vwCl [(h0, .inr (12, [.int 0, .ref m1, .ref m2, .ref m3, .ref m4, .ref m5, .int 8, .int 0, .int 0, .int 0, .int 0, .long 0, .int 0, .int 0, .int 0, .int (-1), .ref m16, .ref m17, .ref m18, .ref m19, .ref m20, .ref m21, .ref m22, .ref m23, .int 0, .int 0, .int 0, .ref m27, .ref m28, .ref m29, .ref m30, .ref m31, .ref m32, .ref m33, .ref m34, .ref m35, .ref m36, .ref m37, .ref m38, .ref m39, .ref m40, .ref m41, .ref m42, .int 0, .int 0, .int 0, .ref m46, .int 0, .int 0, .int 0, .int 0, .int 0, .int 0, .ref m53, .int 0, .int 0, .int 0, .ref m57, .ref m58])), (m5, .inl (k5, 700, .inl (upd f5 8 (vp_nar .byte xz3))))] H := hP
    have hD : va_D A [(h0, .inr (12, [.int 0, .ref m1, .ref m2, .ref m3, .ref m4, .ref m5, .int 8, .int 0, .int 0, .int 0, .int 0, .long 0, .int 0, .int 0, .int 0, .int (-1), .ref m16, .ref m17, .ref m18, .ref m19, .ref m20, .ref m21, .ref m22, .ref m23, .int 0, .int 0, .int 0, .ref m27, .ref m28, .ref m29, .ref m30, .ref m31, .ref m32, .ref m33, .ref m34, .ref m35, .ref m36, .ref m37, .ref m38, .ref m39, .ref m40, .ref m41, .ref m42, .int 0, .int 0, .int 0, .ref m46, .int 0, .int 0, .int 0, .int 0, .int 0, .int 0, .ref m53, .int 0, .int 0, .int 0, .ref m57, .ref m58])), (m5, .inl (k5, 700, .inl (upd f5 8 (vp_nar .byte xz3))))] := hD
    generalize (upd f5 8 (vp_nar .byte xz3)) = fz4 at hP hD
    refine lv_aload_n hx hb dX12_four_20 rfl (lv_at hl 1 rfl) ?_
    refine lv_dup hx hb dX12_four_21 rfl ?_
    refine va_get (D := (dC, dI)) (ci := 12) (v := .int 8) (C := RX12) (T := TX12) (N := 59) hx hb hts (fun w h => List.mem_cons_of_mem _ (List.mem_append_right _ (List.mem_append_left _ h))) hown hK hP 0 rfl rfl 6 (by decide) (hts (.fieldLink RX12 133 "SagMemoryModel" "taped" "I") (wl_mem 1 rfl)) (fun _ h9 => h9) rfl dX12_four_22 ?_
    refine lv_iconst (v := 1) hx hb dX12_four_25 (by decide) ?_
    refine lv_iadd hx hb dX12_four_26 ?_
    refine lv_topi (fun xz5 exz5 => ?_)
    obtain rfl : xz5 = 9 := exz5.trans (by decide)
    refine va_put (D := (dC, dI)) (ci := 12) (v := .int 9) (ty := .int) (C := RX12) (T := TX12) (N := 59) hx hb hts (fun w h => List.mem_cons_of_mem _ (List.mem_append_right _ (List.mem_append_left _ h))) tyX12 tyX12_ok nmX12 hown hK hP hD hS 0 rfl rfl 6 (by decide) (hts (.fieldLink RX12 133 "SagMemoryModel" "taped" "I") (wl_mem 1 rfl)) (fun _ h9 => h9) rfl (by decide +kernel) rfl rfl (Nat.le_of_ble_eq_true rfl) dX12_four_27 (fun H locs hP hD hS => ?_)
    have hP : va_P (dC, dI) vwCl [(h0, .inr (12, [.int 0, .ref m1, .ref m2, .ref m3, .ref m4, .ref m5, .int 9, .int 0, .int 0, .int 0, .int 0, .long 0, .int 0, .int 0, .int 0, .int (-1), .ref m16, .ref m17, .ref m18, .ref m19, .ref m20, .ref m21, .ref m22, .ref m23, .int 0, .int 0, .int 0, .ref m27, .ref m28, .ref m29, .ref m30, .ref m31, .ref m32, .ref m33, .ref m34, .ref m35, .ref m36, .ref m37, .ref m38, .ref m39, .ref m40, .ref m41, .ref m42, .int 0, .int 0, .int 0, .ref m46, .int 0, .int 0, .int 0, .int 0, .int 0, .int 0, .ref m53, .int 0, .int 0, .int 0, .ref m57, .ref m58])), (m5, .inl (k5, 700, .inl fz4))] H := hP
    have hD : va_D A [(h0, .inr (12, [.int 0, .ref m1, .ref m2, .ref m3, .ref m4, .ref m5, .int 9, .int 0, .int 0, .int 0, .int 0, .long 0, .int 0, .int 0, .int 0, .int (-1), .ref m16, .ref m17, .ref m18, .ref m19, .ref m20, .ref m21, .ref m22, .ref m23, .int 0, .int 0, .int 0, .ref m27, .ref m28, .ref m29, .ref m30, .ref m31, .ref m32, .ref m33, .ref m34, .ref m35, .ref m36, .ref m37, .ref m38, .ref m39, .ref m40, .ref m41, .ref m42, .int 0, .int 0, .int 0, .ref m46, .int 0, .int 0, .int 0, .int 0, .int 0, .int 0, .ref m53, .int 0, .int 0, .int 0, .ref m57, .ref m58])), (m5, .inl (k5, 700, .inl fz4))] := hD
    refine lv_iinc (v := 16) (lv' := [(2, .int 16), (0, .ref h0), (1, .int p1)]) hx hb dX12_four_30 hl (k := 0) rfl (by decide) (by decide) rfl (fun ls hl => ?_)
    refine lv_goto (tgt := 3) hx hb dX12_four_33 (by decide) ?_
    refine lv_iload_n hx hb dX12_four_3 rfl (lv_at hl 0 rfl) ?_
    refine lv_if_lt (tgt := 36) hx hb dX12_four_4 (by decide) (fun cz6 => ?_) (fun cz6 => ?_)
    · skip
      exact absurd cz6 (by decide)
    · skip
      refine lv_aload_n hx hb dX12_four_7 rfl (lv_at hl 1 rfl) ?_
      refine va_get (D := (dC, dI)) (ci := 12) (v := .ref m5) (C := RX12) (T := TX12) (N := 59) hx hb hts (fun w h => List.mem_cons_of_mem _ (List.mem_append_right _ (List.mem_append_left _ h))) hown hK hP 0 rfl rfl 5 (by decide) (hts (.fieldLink RX12 23 "SagMemoryModel" "tape" "[B") (wl_mem 0 rfl)) (fun _ h9 => h9) rfl dX12_four_8 ?_
      refine lv_aload_n hx hb dX12_four_11 rfl (lv_at hl 1 rfl) ?_
      refine va_get (D := (dC, dI)) (ci := 12) (v := .int 9) (C := RX12) (T := TX12) (N := 59) hx hb hts (fun w h => List.mem_cons_of_mem _ (List.mem_append_right _ (List.mem_append_left _ h))) hown hK hP 0 rfl rfl 6 (by decide) (hts (.fieldLink RX12 133 "SagMemoryModel" "taped" "I") (wl_mem 1 rfl)) (fun _ h9 => h9) rfl dX12_four_12 ?_
      refine lv_iload_n hx hb dX12_four_15 rfl (lv_at hl 2 rfl) ?_
      refine lv_iload_n hx hb dX12_four_16 rfl (lv_at hl 0 rfl) ?_
      refine lv_ishr hx hb dX12_four_17 ?_
      refine lv_topi (fun xz7 exz7 => ?_)
      refine lv_i2b hx hb dX12_four_18 rfl ?_
      refine lv_topi (fun xz8 exz8 => ?_)
      refine va_bast hx hb hK hP hD hS 1 0 rfl rfl (by unfold vp_in; decide) dX12_four_19 (fun H locs hP hD hS => ?_)
      have hP : va_P (dC, dI) vwCl [(h0, .inr (12, [.int 0, .ref m1, .ref m2, .ref m3, .ref m4, .ref m5, .int 9, .int 0, .int 0, .int 0, .int 0, .long 0, .int 0, .int 0, .int 0, .int (-1), .ref m16, .ref m17, .ref m18, .ref m19, .ref m20, .ref m21, .ref m22, .ref m23, .int 0, .int 0, .int 0, .ref m27, .ref m28, .ref m29, .ref m30, .ref m31, .ref m32, .ref m33, .ref m34, .ref m35, .ref m36, .ref m37, .ref m38, .ref m39, .ref m40, .ref m41, .ref m42, .int 0, .int 0, .int 0, .ref m46, .int 0, .int 0, .int 0, .int 0, .int 0, .int 0, .ref m53, .int 0, .int 0, .int 0, .ref m57, .ref m58])), (m5, .inl (k5, 700, .inl (upd fz4 9 (vp_nar .byte xz8))))] H := hP
      have hD : va_D A [(h0, .inr (12, [.int 0, .ref m1, .ref m2, .ref m3, .ref m4, .ref m5, .int 9, .int 0, .int 0, .int 0, .int 0, .long 0, .int 0, .int 0, .int 0, .int (-1), .ref m16, .ref m17, .ref m18, .ref m19, .ref m20, .ref m21, .ref m22, .ref m23, .int 0, .int 0, .int 0, .ref m27, .ref m28, .ref m29, .ref m30, .ref m31, .ref m32, .ref m33, .ref m34, .ref m35, .ref m36, .ref m37, .ref m38, .ref m39, .ref m40, .ref m41, .ref m42, .int 0, .int 0, .int 0, .ref m46, .int 0, .int 0, .int 0, .int 0, .int 0, .int 0, .ref m53, .int 0, .int 0, .int 0, .ref m57, .ref m58])), (m5, .inl (k5, 700, .inl (upd fz4 9 (vp_nar .byte xz8))))] := hD
      generalize (upd fz4 9 (vp_nar .byte xz8)) = fz9 at hP hD
      refine lv_aload_n hx hb dX12_four_20 rfl (lv_at hl 1 rfl) ?_
      refine lv_dup hx hb dX12_four_21 rfl ?_
      refine va_get (D := (dC, dI)) (ci := 12) (v := .int 9) (C := RX12) (T := TX12) (N := 59) hx hb hts (fun w h => List.mem_cons_of_mem _ (List.mem_append_right _ (List.mem_append_left _ h))) hown hK hP 0 rfl rfl 6 (by decide) (hts (.fieldLink RX12 133 "SagMemoryModel" "taped" "I") (wl_mem 1 rfl)) (fun _ h9 => h9) rfl dX12_four_22 ?_
      refine lv_iconst (v := 1) hx hb dX12_four_25 (by decide) ?_
      refine lv_iadd hx hb dX12_four_26 ?_
      refine lv_topi (fun xz10 exz10 => ?_)
      obtain rfl : xz10 = 10 := exz10.trans (by decide)
      refine va_put (D := (dC, dI)) (ci := 12) (v := .int 10) (ty := .int) (C := RX12) (T := TX12) (N := 59) hx hb hts (fun w h => List.mem_cons_of_mem _ (List.mem_append_right _ (List.mem_append_left _ h))) tyX12 tyX12_ok nmX12 hown hK hP hD hS 0 rfl rfl 6 (by decide) (hts (.fieldLink RX12 133 "SagMemoryModel" "taped" "I") (wl_mem 1 rfl)) (fun _ h9 => h9) rfl (by decide +kernel) rfl rfl (Nat.le_of_ble_eq_true rfl) dX12_four_27 (fun H locs hP hD hS => ?_)
      have hP : va_P (dC, dI) vwCl [(h0, .inr (12, [.int 0, .ref m1, .ref m2, .ref m3, .ref m4, .ref m5, .int 10, .int 0, .int 0, .int 0, .int 0, .long 0, .int 0, .int 0, .int 0, .int (-1), .ref m16, .ref m17, .ref m18, .ref m19, .ref m20, .ref m21, .ref m22, .ref m23, .int 0, .int 0, .int 0, .ref m27, .ref m28, .ref m29, .ref m30, .ref m31, .ref m32, .ref m33, .ref m34, .ref m35, .ref m36, .ref m37, .ref m38, .ref m39, .ref m40, .ref m41, .ref m42, .int 0, .int 0, .int 0, .ref m46, .int 0, .int 0, .int 0, .int 0, .int 0, .int 0, .ref m53, .int 0, .int 0, .int 0, .ref m57, .ref m58])), (m5, .inl (k5, 700, .inl fz9))] H := hP
      have hD : va_D A [(h0, .inr (12, [.int 0, .ref m1, .ref m2, .ref m3, .ref m4, .ref m5, .int 10, .int 0, .int 0, .int 0, .int 0, .long 0, .int 0, .int 0, .int 0, .int (-1), .ref m16, .ref m17, .ref m18, .ref m19, .ref m20, .ref m21, .ref m22, .ref m23, .int 0, .int 0, .int 0, .ref m27, .ref m28, .ref m29, .ref m30, .ref m31, .ref m32, .ref m33, .ref m34, .ref m35, .ref m36, .ref m37, .ref m38, .ref m39, .ref m40, .ref m41, .ref m42, .int 0, .int 0, .int 0, .ref m46, .int 0, .int 0, .int 0, .int 0, .int 0, .int 0, .ref m53, .int 0, .int 0, .int 0, .ref m57, .ref m58])), (m5, .inl (k5, 700, .inl fz9))] := hD
      refine lv_iinc (v := 8) (lv' := [(2, .int 8), (0, .ref h0), (1, .int p1)]) hx hb dX12_four_30 hl (k := 0) rfl (by decide) (by decide) rfl (fun ls hl => ?_)
      refine lv_goto (tgt := 3) hx hb dX12_four_33 (by decide) ?_
      refine lv_iload_n hx hb dX12_four_3 rfl (lv_at hl 0 rfl) ?_
      refine lv_if_lt (tgt := 36) hx hb dX12_four_4 (by decide) (fun cz11 => ?_) (fun cz11 => ?_)
      · skip
        exact absurd cz11 (by decide)
      · skip
        refine lv_aload_n hx hb dX12_four_7 rfl (lv_at hl 1 rfl) ?_
        refine va_get (D := (dC, dI)) (ci := 12) (v := .ref m5) (C := RX12) (T := TX12) (N := 59) hx hb hts (fun w h => List.mem_cons_of_mem _ (List.mem_append_right _ (List.mem_append_left _ h))) hown hK hP 0 rfl rfl 5 (by decide) (hts (.fieldLink RX12 23 "SagMemoryModel" "tape" "[B") (wl_mem 0 rfl)) (fun _ h9 => h9) rfl dX12_four_8 ?_
        refine lv_aload_n hx hb dX12_four_11 rfl (lv_at hl 1 rfl) ?_
        refine va_get (D := (dC, dI)) (ci := 12) (v := .int 10) (C := RX12) (T := TX12) (N := 59) hx hb hts (fun w h => List.mem_cons_of_mem _ (List.mem_append_right _ (List.mem_append_left _ h))) hown hK hP 0 rfl rfl 6 (by decide) (hts (.fieldLink RX12 133 "SagMemoryModel" "taped" "I") (wl_mem 1 rfl)) (fun _ h9 => h9) rfl dX12_four_12 ?_
        refine lv_iload_n hx hb dX12_four_15 rfl (lv_at hl 2 rfl) ?_
        refine lv_iload_n hx hb dX12_four_16 rfl (lv_at hl 0 rfl) ?_
        refine lv_ishr hx hb dX12_four_17 ?_
        refine lv_topi (fun xz12 exz12 => ?_)
        refine lv_i2b hx hb dX12_four_18 rfl ?_
        refine lv_topi (fun xz13 exz13 => ?_)
        refine va_bast hx hb hK hP hD hS 1 0 rfl rfl (by unfold vp_in; decide) dX12_four_19 (fun H locs hP hD hS => ?_)
        have hP : va_P (dC, dI) vwCl [(h0, .inr (12, [.int 0, .ref m1, .ref m2, .ref m3, .ref m4, .ref m5, .int 10, .int 0, .int 0, .int 0, .int 0, .long 0, .int 0, .int 0, .int 0, .int (-1), .ref m16, .ref m17, .ref m18, .ref m19, .ref m20, .ref m21, .ref m22, .ref m23, .int 0, .int 0, .int 0, .ref m27, .ref m28, .ref m29, .ref m30, .ref m31, .ref m32, .ref m33, .ref m34, .ref m35, .ref m36, .ref m37, .ref m38, .ref m39, .ref m40, .ref m41, .ref m42, .int 0, .int 0, .int 0, .ref m46, .int 0, .int 0, .int 0, .int 0, .int 0, .int 0, .ref m53, .int 0, .int 0, .int 0, .ref m57, .ref m58])), (m5, .inl (k5, 700, .inl (upd fz9 10 (vp_nar .byte xz13))))] H := hP
        have hD : va_D A [(h0, .inr (12, [.int 0, .ref m1, .ref m2, .ref m3, .ref m4, .ref m5, .int 10, .int 0, .int 0, .int 0, .int 0, .long 0, .int 0, .int 0, .int 0, .int (-1), .ref m16, .ref m17, .ref m18, .ref m19, .ref m20, .ref m21, .ref m22, .ref m23, .int 0, .int 0, .int 0, .ref m27, .ref m28, .ref m29, .ref m30, .ref m31, .ref m32, .ref m33, .ref m34, .ref m35, .ref m36, .ref m37, .ref m38, .ref m39, .ref m40, .ref m41, .ref m42, .int 0, .int 0, .int 0, .ref m46, .int 0, .int 0, .int 0, .int 0, .int 0, .int 0, .ref m53, .int 0, .int 0, .int 0, .ref m57, .ref m58])), (m5, .inl (k5, 700, .inl (upd fz9 10 (vp_nar .byte xz13))))] := hD
        generalize (upd fz9 10 (vp_nar .byte xz13)) = fz14 at hP hD
        refine lv_aload_n hx hb dX12_four_20 rfl (lv_at hl 1 rfl) ?_
        refine lv_dup hx hb dX12_four_21 rfl ?_
        refine va_get (D := (dC, dI)) (ci := 12) (v := .int 10) (C := RX12) (T := TX12) (N := 59) hx hb hts (fun w h => List.mem_cons_of_mem _ (List.mem_append_right _ (List.mem_append_left _ h))) hown hK hP 0 rfl rfl 6 (by decide) (hts (.fieldLink RX12 133 "SagMemoryModel" "taped" "I") (wl_mem 1 rfl)) (fun _ h9 => h9) rfl dX12_four_22 ?_
        refine lv_iconst (v := 1) hx hb dX12_four_25 (by decide) ?_
        refine lv_iadd hx hb dX12_four_26 ?_
        refine lv_topi (fun xz15 exz15 => ?_)
        obtain rfl : xz15 = 11 := exz15.trans (by decide)
        refine va_put (D := (dC, dI)) (ci := 12) (v := .int 11) (ty := .int) (C := RX12) (T := TX12) (N := 59) hx hb hts (fun w h => List.mem_cons_of_mem _ (List.mem_append_right _ (List.mem_append_left _ h))) tyX12 tyX12_ok nmX12 hown hK hP hD hS 0 rfl rfl 6 (by decide) (hts (.fieldLink RX12 133 "SagMemoryModel" "taped" "I") (wl_mem 1 rfl)) (fun _ h9 => h9) rfl (by decide +kernel) rfl rfl (Nat.le_of_ble_eq_true rfl) dX12_four_27 (fun H locs hP hD hS => ?_)
        have hP : va_P (dC, dI) vwCl [(h0, .inr (12, [.int 0, .ref m1, .ref m2, .ref m3, .ref m4, .ref m5, .int 11, .int 0, .int 0, .int 0, .int 0, .long 0, .int 0, .int 0, .int 0, .int (-1), .ref m16, .ref m17, .ref m18, .ref m19, .ref m20, .ref m21, .ref m22, .ref m23, .int 0, .int 0, .int 0, .ref m27, .ref m28, .ref m29, .ref m30, .ref m31, .ref m32, .ref m33, .ref m34, .ref m35, .ref m36, .ref m37, .ref m38, .ref m39, .ref m40, .ref m41, .ref m42, .int 0, .int 0, .int 0, .ref m46, .int 0, .int 0, .int 0, .int 0, .int 0, .int 0, .ref m53, .int 0, .int 0, .int 0, .ref m57, .ref m58])), (m5, .inl (k5, 700, .inl fz14))] H := hP
        have hD : va_D A [(h0, .inr (12, [.int 0, .ref m1, .ref m2, .ref m3, .ref m4, .ref m5, .int 11, .int 0, .int 0, .int 0, .int 0, .long 0, .int 0, .int 0, .int 0, .int (-1), .ref m16, .ref m17, .ref m18, .ref m19, .ref m20, .ref m21, .ref m22, .ref m23, .int 0, .int 0, .int 0, .ref m27, .ref m28, .ref m29, .ref m30, .ref m31, .ref m32, .ref m33, .ref m34, .ref m35, .ref m36, .ref m37, .ref m38, .ref m39, .ref m40, .ref m41, .ref m42, .int 0, .int 0, .int 0, .ref m46, .int 0, .int 0, .int 0, .int 0, .int 0, .int 0, .ref m53, .int 0, .int 0, .int 0, .ref m57, .ref m58])), (m5, .inl (k5, 700, .inl fz14))] := hD
        refine lv_iinc (v := 0) (lv' := [(2, .int 0), (0, .ref h0), (1, .int p1)]) hx hb dX12_four_30 hl (k := 0) rfl (by decide) (by decide) rfl (fun ls hl => ?_)
        refine lv_goto (tgt := 3) hx hb dX12_four_33 (by decide) ?_
        refine lv_iload_n hx hb dX12_four_3 rfl (lv_at hl 0 rfl) ?_
        refine lv_if_lt (tgt := 36) hx hb dX12_four_4 (by decide) (fun cz16 => ?_) (fun cz16 => ?_)
        · skip
          exact absurd cz16 (by decide)
        · skip
          refine lv_aload_n hx hb dX12_four_7 rfl (lv_at hl 1 rfl) ?_
          refine va_get (D := (dC, dI)) (ci := 12) (v := .ref m5) (C := RX12) (T := TX12) (N := 59) hx hb hts (fun w h => List.mem_cons_of_mem _ (List.mem_append_right _ (List.mem_append_left _ h))) hown hK hP 0 rfl rfl 5 (by decide) (hts (.fieldLink RX12 23 "SagMemoryModel" "tape" "[B") (wl_mem 0 rfl)) (fun _ h9 => h9) rfl dX12_four_8 ?_
          refine lv_aload_n hx hb dX12_four_11 rfl (lv_at hl 1 rfl) ?_
          refine va_get (D := (dC, dI)) (ci := 12) (v := .int 11) (C := RX12) (T := TX12) (N := 59) hx hb hts (fun w h => List.mem_cons_of_mem _ (List.mem_append_right _ (List.mem_append_left _ h))) hown hK hP 0 rfl rfl 6 (by decide) (hts (.fieldLink RX12 133 "SagMemoryModel" "taped" "I") (wl_mem 1 rfl)) (fun _ h9 => h9) rfl dX12_four_12 ?_
          refine lv_iload_n hx hb dX12_four_15 rfl (lv_at hl 2 rfl) ?_
          refine lv_iload_n hx hb dX12_four_16 rfl (lv_at hl 0 rfl) ?_
          refine lv_ishr hx hb dX12_four_17 ?_
          refine lv_topi (fun xz17 exz17 => ?_)
          refine lv_i2b hx hb dX12_four_18 rfl ?_
          refine lv_topi (fun xz18 exz18 => ?_)
          refine va_bast hx hb hK hP hD hS 1 0 rfl rfl (by unfold vp_in; decide) dX12_four_19 (fun H locs hP hD hS => ?_)
          have hP : va_P (dC, dI) vwCl [(h0, .inr (12, [.int 0, .ref m1, .ref m2, .ref m3, .ref m4, .ref m5, .int 11, .int 0, .int 0, .int 0, .int 0, .long 0, .int 0, .int 0, .int 0, .int (-1), .ref m16, .ref m17, .ref m18, .ref m19, .ref m20, .ref m21, .ref m22, .ref m23, .int 0, .int 0, .int 0, .ref m27, .ref m28, .ref m29, .ref m30, .ref m31, .ref m32, .ref m33, .ref m34, .ref m35, .ref m36, .ref m37, .ref m38, .ref m39, .ref m40, .ref m41, .ref m42, .int 0, .int 0, .int 0, .ref m46, .int 0, .int 0, .int 0, .int 0, .int 0, .int 0, .ref m53, .int 0, .int 0, .int 0, .ref m57, .ref m58])), (m5, .inl (k5, 700, .inl (upd fz14 11 (vp_nar .byte xz18))))] H := hP
          have hD : va_D A [(h0, .inr (12, [.int 0, .ref m1, .ref m2, .ref m3, .ref m4, .ref m5, .int 11, .int 0, .int 0, .int 0, .int 0, .long 0, .int 0, .int 0, .int 0, .int (-1), .ref m16, .ref m17, .ref m18, .ref m19, .ref m20, .ref m21, .ref m22, .ref m23, .int 0, .int 0, .int 0, .ref m27, .ref m28, .ref m29, .ref m30, .ref m31, .ref m32, .ref m33, .ref m34, .ref m35, .ref m36, .ref m37, .ref m38, .ref m39, .ref m40, .ref m41, .ref m42, .int 0, .int 0, .int 0, .ref m46, .int 0, .int 0, .int 0, .int 0, .int 0, .int 0, .ref m53, .int 0, .int 0, .int 0, .ref m57, .ref m58])), (m5, .inl (k5, 700, .inl (upd fz14 11 (vp_nar .byte xz18))))] := hD
          generalize (upd fz14 11 (vp_nar .byte xz18)) = fz19 at hP hD
          refine lv_aload_n hx hb dX12_four_20 rfl (lv_at hl 1 rfl) ?_
          refine lv_dup hx hb dX12_four_21 rfl ?_
          refine va_get (D := (dC, dI)) (ci := 12) (v := .int 11) (C := RX12) (T := TX12) (N := 59) hx hb hts (fun w h => List.mem_cons_of_mem _ (List.mem_append_right _ (List.mem_append_left _ h))) hown hK hP 0 rfl rfl 6 (by decide) (hts (.fieldLink RX12 133 "SagMemoryModel" "taped" "I") (wl_mem 1 rfl)) (fun _ h9 => h9) rfl dX12_four_22 ?_
          refine lv_iconst (v := 1) hx hb dX12_four_25 (by decide) ?_
          refine lv_iadd hx hb dX12_four_26 ?_
          refine lv_topi (fun xz20 exz20 => ?_)
          obtain rfl : xz20 = 12 := exz20.trans (by decide)
          refine va_put (D := (dC, dI)) (ci := 12) (v := .int 12) (ty := .int) (C := RX12) (T := TX12) (N := 59) hx hb hts (fun w h => List.mem_cons_of_mem _ (List.mem_append_right _ (List.mem_append_left _ h))) tyX12 tyX12_ok nmX12 hown hK hP hD hS 0 rfl rfl 6 (by decide) (hts (.fieldLink RX12 133 "SagMemoryModel" "taped" "I") (wl_mem 1 rfl)) (fun _ h9 => h9) rfl (by decide +kernel) rfl rfl (Nat.le_of_ble_eq_true rfl) dX12_four_27 (fun H locs hP hD hS => ?_)
          have hP : va_P (dC, dI) vwCl [(h0, .inr (12, [.int 0, .ref m1, .ref m2, .ref m3, .ref m4, .ref m5, .int 12, .int 0, .int 0, .int 0, .int 0, .long 0, .int 0, .int 0, .int 0, .int (-1), .ref m16, .ref m17, .ref m18, .ref m19, .ref m20, .ref m21, .ref m22, .ref m23, .int 0, .int 0, .int 0, .ref m27, .ref m28, .ref m29, .ref m30, .ref m31, .ref m32, .ref m33, .ref m34, .ref m35, .ref m36, .ref m37, .ref m38, .ref m39, .ref m40, .ref m41, .ref m42, .int 0, .int 0, .int 0, .ref m46, .int 0, .int 0, .int 0, .int 0, .int 0, .int 0, .ref m53, .int 0, .int 0, .int 0, .ref m57, .ref m58])), (m5, .inl (k5, 700, .inl fz19))] H := hP
          have hD : va_D A [(h0, .inr (12, [.int 0, .ref m1, .ref m2, .ref m3, .ref m4, .ref m5, .int 12, .int 0, .int 0, .int 0, .int 0, .long 0, .int 0, .int 0, .int 0, .int (-1), .ref m16, .ref m17, .ref m18, .ref m19, .ref m20, .ref m21, .ref m22, .ref m23, .int 0, .int 0, .int 0, .ref m27, .ref m28, .ref m29, .ref m30, .ref m31, .ref m32, .ref m33, .ref m34, .ref m35, .ref m36, .ref m37, .ref m38, .ref m39, .ref m40, .ref m41, .ref m42, .int 0, .int 0, .int 0, .ref m46, .int 0, .int 0, .int 0, .int 0, .int 0, .int 0, .ref m53, .int 0, .int 0, .int 0, .ref m57, .ref m58])), (m5, .inl (k5, 700, .inl fz19))] := hD
          refine lv_iinc (v := (-8)) (lv' := [(2, .int (-8)), (0, .ref h0), (1, .int p1)]) hx hb dX12_four_30 hl (k := 0) rfl (by decide) (by decide) rfl (fun ls hl => ?_)
          refine lv_goto (tgt := 3) hx hb dX12_four_33 (by decide) ?_
          refine lv_iload_n hx hb dX12_four_3 rfl (lv_at hl 0 rfl) ?_
          refine lv_if_lt (tgt := 36) hx hb dX12_four_4 (by decide) (fun cz21 => ?_) (fun cz21 => ?_)
          · skip
            have hP9 := hP.sub (ws' := [(h0, .inr (12, [.int 0, .ref m1, .ref m2, .ref m3, .ref m4, .ref m5, .int 12, .int 0, .int 0, .int 0, .int 0, .long 0, .int 0, .int 0, .int 0, .int (-1), .ref m16, .ref m17, .ref m18, .ref m19, .ref m20, .ref m21, .ref m22, .ref m23, .int 0, .int 0, .int 0, .ref m27, .ref m28, .ref m29, .ref m30, .ref m31, .ref m32, .ref m33, .ref m34, .ref m35, .ref m36, .ref m37, .ref m38, .ref m39, .ref m40, .ref m41, .ref m42, .int 0, .int 0, .int 0, .ref m46, .int 0, .int 0, .int 0, .int 0, .int 0, .int 0, .ref m53, .int 0, .int 0, .int 0, .ref m57, .ref m58])), (m5, .inl (k5, 700, .inl fz19))]) [0, 1] rfl
            have hD9 := hD.sub (ws' := [(h0, .inr (12, [.int 0, .ref m1, .ref m2, .ref m3, .ref m4, .ref m5, .int 12, .int 0, .int 0, .int 0, .int 0, .long 0, .int 0, .int 0, .int 0, .int (-1), .ref m16, .ref m17, .ref m18, .ref m19, .ref m20, .ref m21, .ref m22, .ref m23, .int 0, .int 0, .int 0, .ref m27, .ref m28, .ref m29, .ref m30, .ref m31, .ref m32, .ref m33, .ref m34, .ref m35, .ref m36, .ref m37, .ref m38, .ref m39, .ref m40, .ref m41, .ref m42, .int 0, .int 0, .int 0, .ref m46, .int 0, .int 0, .int 0, .int 0, .int 0, .int 0, .ref m53, .int 0, .int 0, .int 0, .ref m57, .ref m58])), (m5, .inl (k5, 700, .inl fz19))]) [0, 1] (by decide) rfl
            have hK9 := hK.sub (tys' := [(k5, .byte)]) [0] rfl
            exact W.vret hx hb hr (fun t ht hW => ⟨⟨(), rfl, trivial, fz19, by rw [ht]; exact hP9, va_K.moved hW.alike hK9, hD9⟩, hS.F ht⟩) hS.2.2 dX12_four_36
          · skip
            exact absurd cz21 (by decide)
def wk_f_X12_four_12 : List Cond := .code yX12_four cX12_four 3 none :: ([.fieldLink RX12 23 "SagMemoryModel" "tape" "[B", .fieldLink RX12 133 "SagMemoryModel" "taped" "I"] ++ (wsX120 ++ []))
theorem wkg_f_X12_four_12 : wk_f_X12_four_12.all goodWord = true := by decide +kernel
set_option maxHeartbeats 4000000 in
set_option maxRecDepth 100000 in
theorem f_X12_four_12 (l : Launch) (dC : Nat → ClassId) (dI : Nat → Nat → Nat) (sz : Nat) (h0 : Nat) (m1 : Nat) (m2 : Nat) (m3 : Nat) (m4 : Nat) (m5 : Nat) (m16 : Nat) (m17 : Nat) (m18 : Nat) (m19 : Nat) (m20 : Nat) (m21 : Nat) (m22 : Nat) (m23 : Nat) (m27 : Nat) (m28 : Nat) (m29 : Nat) (m30 : Nat) (m31 : Nat) (m32 : Nat) (m33 : Nat) (m34 : Nat) (m35 : Nat) (m36 : Nat) (m37 : Nat) (m38 : Nat) (m39 : Nat) (m40 : Nat) (m41 : Nat) (m42 : Nat) (m46 : Nat) (m53 : Nat) (m57 : Nat) (m58 : Nat) (k5 : ClassId) (f5 : Nat → Int32) (p1 : Int32) : Met l yX12_four wk_f_X12_four_12 ({ frames := 0, cells := 0, slots := 0, locals := 0 }) (va_Pc [.ref h0, .int p1] (fun U => U.heap.size = sz ∧ va_P (dC, dI) vwCl [(h0, .inr (12, [.int 0, .ref m1, .ref m2, .ref m3, .ref m4, .ref m5, .int 12, .int 0, .int 0, .int 0, .int 0, .long 0, .int 0, .int 0, .int 0, .int (-1), .ref m16, .ref m17, .ref m18, .ref m19, .ref m20, .ref m21, .ref m22, .ref m23, .int 0, .int 0, .int 0, .ref m27, .ref m28, .ref m29, .ref m30, .ref m31, .ref m32, .ref m33, .ref m34, .ref m35, .ref m36, .ref m37, .ref m38, .ref m39, .ref m40, .ref m41, .ref m42, .int 0, .int 0, .int 0, .ref m46, .int 0, .int 0, .int 0, .int 0, .int 0, .int 0, .ref m53, .int 0, .int 0, .int 0, .ref m57, .ref m58])), (m5, .inl (k5, 700, .inl f5))] U.heap ∧ va_K (dC, dI) vwCl [(k5, .byte)] U ∧ va_D (fun _ => True) [(h0, .inr (12, [.int 0, .ref m1, .ref m2, .ref m3, .ref m4, .ref m5, .int 12, .int 0, .int 0, .int 0, .int 0, .long 0, .int 0, .int 0, .int 0, .int (-1), .ref m16, .ref m17, .ref m18, .ref m19, .ref m20, .ref m21, .ref m22, .ref m23, .int 0, .int 0, .int 0, .ref m27, .ref m28, .ref m29, .ref m30, .ref m31, .ref m32, .ref m33, .ref m34, .ref m35, .ref m36, .ref m37, .ref m38, .ref m39, .ref m40, .ref m41, .ref m42, .int 0, .int 0, .int 0, .ref m46, .int 0, .int 0, .int 0, .int 0, .int 0, .int 0, .ref m53, .int 0, .int 0, .int 0, .ref m57, .ref m58])), (m5, .inl (k5, 700, .inl f5))])) (va_Qv (fun _ : Unit => True) (fun (_ : Unit) (t : State) => ∃ (e5 : Nat → Int32), va_P (dC, dI) vwCl [(h0, .inr (12, [.int 0, .ref m1, .ref m2, .ref m3, .ref m4, .ref m5, .int 16, .int 0, .int 0, .int 0, .int 0, .long 0, .int 0, .int 0, .int 0, .int (-1), .ref m16, .ref m17, .ref m18, .ref m19, .ref m20, .ref m21, .ref m22, .ref m23, .int 0, .int 0, .int 0, .ref m27, .ref m28, .ref m29, .ref m30, .ref m31, .ref m32, .ref m33, .ref m34, .ref m35, .ref m36, .ref m37, .ref m38, .ref m39, .ref m40, .ref m41, .ref m42, .int 0, .int 0, .int 0, .ref m46, .int 0, .int 0, .int 0, .int 0, .int 0, .int 0, .ref m53, .int 0, .int 0, .int 0, .ref m57, .ref m58])), (m5, .inl (k5, 700, .inl e5))] t.heap ∧ va_K (dC, dI) vwCl [(k5, .byte)] t ∧ va_D (va_A [(h0, .inr (12, [.int 0, .ref m1, .ref m2, .ref m3, .ref m4, .ref m5, .int 12, .int 0, .int 0, .int 0, .int 0, .long 0, .int 0, .int 0, .int 0, .int (-1), .ref m16, .ref m17, .ref m18, .ref m19, .ref m20, .ref m21, .ref m22, .ref m23, .int 0, .int 0, .int 0, .ref m27, .ref m28, .ref m29, .ref m30, .ref m31, .ref m32, .ref m33, .ref m34, .ref m35, .ref m36, .ref m37, .ref m38, .ref m39, .ref m40, .ref m41, .ref m42, .int 0, .int 0, .int 0, .ref m46, .int 0, .int 0, .int 0, .int 0, .int 0, .int 0, .ref m53, .int 0, .int 0, .int 0, .ref m57, .ref m58])), (m5, .inl (k5, 700, .inl f5))] sz) [(h0, .inr (12, [.int 0, .ref m1, .ref m2, .ref m3, .ref m4, .ref m5, .int 16, .int 0, .int 0, .int 0, .int 0, .long 0, .int 0, .int 0, .int 0, .int (-1), .ref m16, .ref m17, .ref m18, .ref m19, .ref m20, .ref m21, .ref m22, .ref m23, .int 0, .int 0, .int 0, .ref m27, .ref m28, .ref m29, .ref m30, .ref m31, .ref m32, .ref m33, .ref m34, .ref m35, .ref m36, .ref m37, .ref m38, .ref m39, .ref m40, .ref m41, .ref m42, .int 0, .int 0, .int 0, .ref m46, .int 0, .int 0, .int 0, .int 0, .int 0, .int 0, .ref m53, .int 0, .int 0, .int 0, .ref m57, .ref m58])), (m5, .inl (k5, 700, .inl e5))]) (va_A [(h0, .inr (12, [.int 0, .ref m1, .ref m2, .ref m3, .ref m4, .ref m5, .int 12, .int 0, .int 0, .int 0, .int 0, .long 0, .int 0, .int 0, .int 0, .int (-1), .ref m16, .ref m17, .ref m18, .ref m19, .ref m20, .ref m21, .ref m22, .ref m23, .int 0, .int 0, .int 0, .ref m27, .ref m28, .ref m29, .ref m30, .ref m31, .ref m32, .ref m33, .ref m34, .ref m35, .ref m36, .ref m37, .ref m38, .ref m39, .ref m40, .ref m41, .ref m42, .int 0, .int 0, .int 0, .ref m46, .int 0, .int 0, .int 0, .int 0, .int 0, .int 0, .ref m53, .int 0, .int 0, .int 0, .ref m57, .ref m58])), (m5, .inl (k5, 700, .inl f5))] sz)) 0 0 (va_A [(h0, .inr (12, [.int 0, .ref m1, .ref m2, .ref m3, .ref m4, .ref m5, .int 12, .int 0, .int 0, .int 0, .int 0, .long 0, .int 0, .int 0, .int 0, .int (-1), .ref m16, .ref m17, .ref m18, .ref m19, .ref m20, .ref m21, .ref m22, .ref m23, .int 0, .int 0, .int 0, .ref m27, .ref m28, .ref m29, .ref m30, .ref m31, .ref m32, .ref m33, .ref m34, .ref m35, .ref m36, .ref m37, .ref m38, .ref m39, .ref m40, .ref m41, .ref m42, .int 0, .int 0, .int 0, .ref m46, .int 0, .int 0, .int 0, .int 0, .int 0, .int 0, .ref m53, .int 0, .int 0, .int 0, .ref m57, .ref m58])), (m5, .inl (k5, 700, .inl f5))] sz) := by
  refine Met.ofW (cc := cX12_four) (maxL := 3) (ret := none) (by decide) rfl ?_
  intro p e s m args below meth c s₁ B hml hv
  obtain ⟨rfl, hsz, hP, hK, hD0⟩ := hv
  have hx := B.exec
  have hb := B.bytes
  have hr := B.returns
  have hts := atoms_spec (ws := wk_f_X12_four_12) B.pre
  have hown : s.vm.findClass RX12 = some m.cls := findClass_of_methodNamed B.named
  have hlocks := B.notSynchronized
  subst hsz
  have hD := hD0.self (sz := s.heap.size)
  generalize hAe : va_A [(h0, .inr (12, [.int 0, .ref m1, .ref m2, .ref m3, .ref m4, .ref m5, .int 12, .int 0, .int 0, .int 0, .int 0, .long 0, .int 0, .int 0, .int 0, .int (-1), .ref m16, .ref m17, .ref m18, .ref m19, .ref m20, .ref m21, .ref m22, .ref m23, .int 0, .int 0, .int 0, .ref m27, .ref m28, .ref m29, .ref m30, .ref m31, .ref m32, .ref m33, .ref m34, .ref m35, .ref m36, .ref m37, .ref m38, .ref m39, .ref m40, .ref m41, .ref m42, .int 0, .int 0, .int 0, .ref m46, .int 0, .int 0, .int 0, .int 0, .int 0, .int 0, .ref m53, .int 0, .int 0, .int 0, .ref m57, .ref m58])), (m5, .inl (k5, 700, .inl f5))] s.heap.size = A at hD ⊢
  have hA : ∀ q : Nat, s.heap.size ≤ q → A q := fun q h => by rw [← hAe]; exact Or.inr h
  have hS : va_S A s.heap s.heap [] := va_S.rf
  have hP : va_P (dC, dI) vwCl [(h0, .inr (12, [.int 0, .ref m1, .ref m2, .ref m3, .ref m4, .ref m5, .int 12, .int 0, .int 0, .int 0, .int 0, .long 0, .int 0, .int 0, .int 0, .int (-1), .ref m16, .ref m17, .ref m18, .ref m19, .ref m20, .ref m21, .ref m22, .ref m23, .int 0, .int 0, .int 0, .ref m27, .ref m28, .ref m29, .ref m30, .ref m31, .ref m32, .ref m33, .ref m34, .ref m35, .ref m36, .ref m37, .ref m38, .ref m39, .ref m40, .ref m41, .ref m42, .int 0, .int 0, .int 0, .ref m46, .int 0, .int 0, .int 0, .int 0, .int 0, .int 0, .ref m53, .int 0, .int 0, .int 0, .ref m57, .ref m58])), (m5, .inl (k5, 700, .inl f5))] s.heap := hP
  have hl := lv_entry ([.ref h0, .int p1]) (n := 3) (Nat.le_of_ble_eq_true rfl)
  rw [lg_entry_eq]
  generalize (lg_sl ([.ref h0, .int p1]) ++ List.replicate (3 - (lg_sl ([.ref h0, .int p1])).length) Slot.unset).toArray = ls at hl ⊢
  have hl : lv_has ls 3 [(0, .ref h0), (1, .int p1)] := hl
  refine lv_bipush (v := 24) hx hb dX12_four_0 (by decide) ?_
  refine lv_istore_n (lv' := [(2, .int 24), (0, .ref h0), (1, .int p1)]) hx hb dX12_four_2 rfl hl (by decide) rfl (fun ls hl => ?_)
  refine lv_iload_n hx hb dX12_four_3 rfl (lv_at hl 0 rfl) ?_
  refine lv_if_lt (tgt := 36) hx hb dX12_four_4 (by decide) (fun cz1 => ?_) (fun cz1 => ?_)
  · skip
    exact absurd cz1 (by decide)
  · skip
    refine lv_aload_n hx hb dX12_four_7 rfl (lv_at hl 1 rfl) ?_
    refine va_get (D := (dC, dI)) (ci := 12) (v := .ref m5) (C := RX12) (T := TX12) (N := 59) hx hb hts (fun w h => List.mem_cons_of_mem _ (List.mem_append_right _ (List.mem_append_left _ h))) hown hK hP 0 rfl rfl 5 (by decide) (hts (.fieldLink RX12 23 "SagMemoryModel" "tape" "[B") (wl_mem 0 rfl)) (fun _ h9 => h9) rfl dX12_four_8 ?_
    refine lv_aload_n hx hb dX12_four_11 rfl (lv_at hl 1 rfl) ?_
    refine va_get (D := (dC, dI)) (ci := 12) (v := .int 12) (C := RX12) (T := TX12) (N := 59) hx hb hts (fun w h => List.mem_cons_of_mem _ (List.mem_append_right _ (List.mem_append_left _ h))) hown hK hP 0 rfl rfl 6 (by decide) (hts (.fieldLink RX12 133 "SagMemoryModel" "taped" "I") (wl_mem 1 rfl)) (fun _ h9 => h9) rfl dX12_four_12 ?_
    refine lv_iload_n hx hb dX12_four_15 rfl (lv_at hl 2 rfl) ?_
    refine lv_iload_n hx hb dX12_four_16 rfl (lv_at hl 0 rfl) ?_
    refine lv_ishr hx hb dX12_four_17 ?_
    refine lv_topi (fun xz2 exz2 => ?_)
    refine lv_i2b hx hb dX12_four_18 rfl ?_
    refine lv_topi (fun xz3 exz3 => ?_)
    refine va_bast hx hb hK hP hD hS 1 0 rfl rfl (by unfold vp_in; decide) dX12_four_19 (fun H locs hP hD hS => ?_)
    have hP : va_P (dC, dI) vwCl [(h0, .inr (12, [.int 0, .ref m1, .ref m2, .ref m3, .ref m4, .ref m5, .int 12, .int 0, .int 0, .int 0, .int 0, .long 0, .int 0, .int 0, .int 0, .int (-1), .ref m16, .ref m17, .ref m18, .ref m19, .ref m20, .ref m21, .ref m22, .ref m23, .int 0, .int 0, .int 0, .ref m27, .ref m28, .ref m29, .ref m30, .ref m31, .ref m32, .ref m33, .ref m34, .ref m35, .ref m36, .ref m37, .ref m38, .ref m39, .ref m40, .ref m41, .ref m42, .int 0, .int 0, .int 0, .ref m46, .int 0, .int 0, .int 0, .int 0, .int 0, .int 0, .ref m53, .int 0, .int 0, .int 0, .ref m57, .ref m58])), (m5, .inl (k5, 700, .inl (upd f5 12 (vp_nar .byte xz3))))] H := hP
    have hD : va_D A [(h0, .inr (12, [.int 0, .ref m1, .ref m2, .ref m3, .ref m4, .ref m5, .int 12, .int 0, .int 0, .int 0, .int 0, .long 0, .int 0, .int 0, .int 0, .int (-1), .ref m16, .ref m17, .ref m18, .ref m19, .ref m20, .ref m21, .ref m22, .ref m23, .int 0, .int 0, .int 0, .ref m27, .ref m28, .ref m29, .ref m30, .ref m31, .ref m32, .ref m33, .ref m34, .ref m35, .ref m36, .ref m37, .ref m38, .ref m39, .ref m40, .ref m41, .ref m42, .int 0, .int 0, .int 0, .ref m46, .int 0, .int 0, .int 0, .int 0, .int 0, .int 0, .ref m53, .int 0, .int 0, .int 0, .ref m57, .ref m58])), (m5, .inl (k5, 700, .inl (upd f5 12 (vp_nar .byte xz3))))] := hD
    generalize (upd f5 12 (vp_nar .byte xz3)) = fz4 at hP hD
    refine lv_aload_n hx hb dX12_four_20 rfl (lv_at hl 1 rfl) ?_
    refine lv_dup hx hb dX12_four_21 rfl ?_
    refine va_get (D := (dC, dI)) (ci := 12) (v := .int 12) (C := RX12) (T := TX12) (N := 59) hx hb hts (fun w h => List.mem_cons_of_mem _ (List.mem_append_right _ (List.mem_append_left _ h))) hown hK hP 0 rfl rfl 6 (by decide) (hts (.fieldLink RX12 133 "SagMemoryModel" "taped" "I") (wl_mem 1 rfl)) (fun _ h9 => h9) rfl dX12_four_22 ?_
    refine lv_iconst (v := 1) hx hb dX12_four_25 (by decide) ?_
    refine lv_iadd hx hb dX12_four_26 ?_
    refine lv_topi (fun xz5 exz5 => ?_)
    obtain rfl : xz5 = 13 := exz5.trans (by decide)
    refine va_put (D := (dC, dI)) (ci := 12) (v := .int 13) (ty := .int) (C := RX12) (T := TX12) (N := 59) hx hb hts (fun w h => List.mem_cons_of_mem _ (List.mem_append_right _ (List.mem_append_left _ h))) tyX12 tyX12_ok nmX12 hown hK hP hD hS 0 rfl rfl 6 (by decide) (hts (.fieldLink RX12 133 "SagMemoryModel" "taped" "I") (wl_mem 1 rfl)) (fun _ h9 => h9) rfl (by decide +kernel) rfl rfl (Nat.le_of_ble_eq_true rfl) dX12_four_27 (fun H locs hP hD hS => ?_)
    have hP : va_P (dC, dI) vwCl [(h0, .inr (12, [.int 0, .ref m1, .ref m2, .ref m3, .ref m4, .ref m5, .int 13, .int 0, .int 0, .int 0, .int 0, .long 0, .int 0, .int 0, .int 0, .int (-1), .ref m16, .ref m17, .ref m18, .ref m19, .ref m20, .ref m21, .ref m22, .ref m23, .int 0, .int 0, .int 0, .ref m27, .ref m28, .ref m29, .ref m30, .ref m31, .ref m32, .ref m33, .ref m34, .ref m35, .ref m36, .ref m37, .ref m38, .ref m39, .ref m40, .ref m41, .ref m42, .int 0, .int 0, .int 0, .ref m46, .int 0, .int 0, .int 0, .int 0, .int 0, .int 0, .ref m53, .int 0, .int 0, .int 0, .ref m57, .ref m58])), (m5, .inl (k5, 700, .inl fz4))] H := hP
    have hD : va_D A [(h0, .inr (12, [.int 0, .ref m1, .ref m2, .ref m3, .ref m4, .ref m5, .int 13, .int 0, .int 0, .int 0, .int 0, .long 0, .int 0, .int 0, .int 0, .int (-1), .ref m16, .ref m17, .ref m18, .ref m19, .ref m20, .ref m21, .ref m22, .ref m23, .int 0, .int 0, .int 0, .ref m27, .ref m28, .ref m29, .ref m30, .ref m31, .ref m32, .ref m33, .ref m34, .ref m35, .ref m36, .ref m37, .ref m38, .ref m39, .ref m40, .ref m41, .ref m42, .int 0, .int 0, .int 0, .ref m46, .int 0, .int 0, .int 0, .int 0, .int 0, .int 0, .ref m53, .int 0, .int 0, .int 0, .ref m57, .ref m58])), (m5, .inl (k5, 700, .inl fz4))] := hD
    refine lv_iinc (v := 16) (lv' := [(2, .int 16), (0, .ref h0), (1, .int p1)]) hx hb dX12_four_30 hl (k := 0) rfl (by decide) (by decide) rfl (fun ls hl => ?_)
    refine lv_goto (tgt := 3) hx hb dX12_four_33 (by decide) ?_
    refine lv_iload_n hx hb dX12_four_3 rfl (lv_at hl 0 rfl) ?_
    refine lv_if_lt (tgt := 36) hx hb dX12_four_4 (by decide) (fun cz6 => ?_) (fun cz6 => ?_)
    · skip
      exact absurd cz6 (by decide)
    · skip
      refine lv_aload_n hx hb dX12_four_7 rfl (lv_at hl 1 rfl) ?_
      refine va_get (D := (dC, dI)) (ci := 12) (v := .ref m5) (C := RX12) (T := TX12) (N := 59) hx hb hts (fun w h => List.mem_cons_of_mem _ (List.mem_append_right _ (List.mem_append_left _ h))) hown hK hP 0 rfl rfl 5 (by decide) (hts (.fieldLink RX12 23 "SagMemoryModel" "tape" "[B") (wl_mem 0 rfl)) (fun _ h9 => h9) rfl dX12_four_8 ?_
      refine lv_aload_n hx hb dX12_four_11 rfl (lv_at hl 1 rfl) ?_
      refine va_get (D := (dC, dI)) (ci := 12) (v := .int 13) (C := RX12) (T := TX12) (N := 59) hx hb hts (fun w h => List.mem_cons_of_mem _ (List.mem_append_right _ (List.mem_append_left _ h))) hown hK hP 0 rfl rfl 6 (by decide) (hts (.fieldLink RX12 133 "SagMemoryModel" "taped" "I") (wl_mem 1 rfl)) (fun _ h9 => h9) rfl dX12_four_12 ?_
      refine lv_iload_n hx hb dX12_four_15 rfl (lv_at hl 2 rfl) ?_
      refine lv_iload_n hx hb dX12_four_16 rfl (lv_at hl 0 rfl) ?_
      refine lv_ishr hx hb dX12_four_17 ?_
      refine lv_topi (fun xz7 exz7 => ?_)
      refine lv_i2b hx hb dX12_four_18 rfl ?_
      refine lv_topi (fun xz8 exz8 => ?_)
      refine va_bast hx hb hK hP hD hS 1 0 rfl rfl (by unfold vp_in; decide) dX12_four_19 (fun H locs hP hD hS => ?_)
      have hP : va_P (dC, dI) vwCl [(h0, .inr (12, [.int 0, .ref m1, .ref m2, .ref m3, .ref m4, .ref m5, .int 13, .int 0, .int 0, .int 0, .int 0, .long 0, .int 0, .int 0, .int 0, .int (-1), .ref m16, .ref m17, .ref m18, .ref m19, .ref m20, .ref m21, .ref m22, .ref m23, .int 0, .int 0, .int 0, .ref m27, .ref m28, .ref m29, .ref m30, .ref m31, .ref m32, .ref m33, .ref m34, .ref m35, .ref m36, .ref m37, .ref m38, .ref m39, .ref m40, .ref m41, .ref m42, .int 0, .int 0, .int 0, .ref m46, .int 0, .int 0, .int 0, .int 0, .int 0, .int 0, .ref m53, .int 0, .int 0, .int 0, .ref m57, .ref m58])), (m5, .inl (k5, 700, .inl (upd fz4 13 (vp_nar .byte xz8))))] H := hP
      have hD : va_D A [(h0, .inr (12, [.int 0, .ref m1, .ref m2, .ref m3, .ref m4, .ref m5, .int 13, .int 0, .int 0, .int 0, .int 0, .long 0, .int 0, .int 0, .int 0, .int (-1), .ref m16, .ref m17, .ref m18, .ref m19, .ref m20, .ref m21, .ref m22, .ref m23, .int 0, .int 0, .int 0, .ref m27, .ref m28, .ref m29, .ref m30, .ref m31, .ref m32, .ref m33, .ref m34, .ref m35, .ref m36, .ref m37, .ref m38, .ref m39, .ref m40, .ref m41, .ref m42, .int 0, .int 0, .int 0, .ref m46, .int 0, .int 0, .int 0, .int 0, .int 0, .int 0, .ref m53, .int 0, .int 0, .int 0, .ref m57, .ref m58])), (m5, .inl (k5, 700, .inl (upd fz4 13 (vp_nar .byte xz8))))] := hD
      generalize (upd fz4 13 (vp_nar .byte xz8)) = fz9 at hP hD
      refine lv_aload_n hx hb dX12_four_20 rfl (lv_at hl 1 rfl) ?_
      refine lv_dup hx hb dX12_four_21 rfl ?_
      refine va_get (D := (dC, dI)) (ci := 12) (v := .int 13) (C := RX12) (T := TX12) (N := 59) hx hb hts (fun w h => List.mem_cons_of_mem _ (List.mem_append_right _ (List.mem_append_left _ h))) hown hK hP 0 rfl rfl 6 (by decide) (hts (.fieldLink RX12 133 "SagMemoryModel" "taped" "I") (wl_mem 1 rfl)) (fun _ h9 => h9) rfl dX12_four_22 ?_
      refine lv_iconst (v := 1) hx hb dX12_four_25 (by decide) ?_
      refine lv_iadd hx hb dX12_four_26 ?_
      refine lv_topi (fun xz10 exz10 => ?_)
      obtain rfl : xz10 = 14 := exz10.trans (by decide)
      refine va_put (D := (dC, dI)) (ci := 12) (v := .int 14) (ty := .int) (C := RX12) (T := TX12) (N := 59) hx hb hts (fun w h => List.mem_cons_of_mem _ (List.mem_append_right _ (List.mem_append_left _ h))) tyX12 tyX12_ok nmX12 hown hK hP hD hS 0 rfl rfl 6 (by decide) (hts (.fieldLink RX12 133 "SagMemoryModel" "taped" "I") (wl_mem 1 rfl)) (fun _ h9 => h9) rfl (by decide +kernel) rfl rfl (Nat.le_of_ble_eq_true rfl) dX12_four_27 (fun H locs hP hD hS => ?_)
      have hP : va_P (dC, dI) vwCl [(h0, .inr (12, [.int 0, .ref m1, .ref m2, .ref m3, .ref m4, .ref m5, .int 14, .int 0, .int 0, .int 0, .int 0, .long 0, .int 0, .int 0, .int 0, .int (-1), .ref m16, .ref m17, .ref m18, .ref m19, .ref m20, .ref m21, .ref m22, .ref m23, .int 0, .int 0, .int 0, .ref m27, .ref m28, .ref m29, .ref m30, .ref m31, .ref m32, .ref m33, .ref m34, .ref m35, .ref m36, .ref m37, .ref m38, .ref m39, .ref m40, .ref m41, .ref m42, .int 0, .int 0, .int 0, .ref m46, .int 0, .int 0, .int 0, .int 0, .int 0, .int 0, .ref m53, .int 0, .int 0, .int 0, .ref m57, .ref m58])), (m5, .inl (k5, 700, .inl fz9))] H := hP
      have hD : va_D A [(h0, .inr (12, [.int 0, .ref m1, .ref m2, .ref m3, .ref m4, .ref m5, .int 14, .int 0, .int 0, .int 0, .int 0, .long 0, .int 0, .int 0, .int 0, .int (-1), .ref m16, .ref m17, .ref m18, .ref m19, .ref m20, .ref m21, .ref m22, .ref m23, .int 0, .int 0, .int 0, .ref m27, .ref m28, .ref m29, .ref m30, .ref m31, .ref m32, .ref m33, .ref m34, .ref m35, .ref m36, .ref m37, .ref m38, .ref m39, .ref m40, .ref m41, .ref m42, .int 0, .int 0, .int 0, .ref m46, .int 0, .int 0, .int 0, .int 0, .int 0, .int 0, .ref m53, .int 0, .int 0, .int 0, .ref m57, .ref m58])), (m5, .inl (k5, 700, .inl fz9))] := hD
      refine lv_iinc (v := 8) (lv' := [(2, .int 8), (0, .ref h0), (1, .int p1)]) hx hb dX12_four_30 hl (k := 0) rfl (by decide) (by decide) rfl (fun ls hl => ?_)
      refine lv_goto (tgt := 3) hx hb dX12_four_33 (by decide) ?_
      refine lv_iload_n hx hb dX12_four_3 rfl (lv_at hl 0 rfl) ?_
      refine lv_if_lt (tgt := 36) hx hb dX12_four_4 (by decide) (fun cz11 => ?_) (fun cz11 => ?_)
      · skip
        exact absurd cz11 (by decide)
      · skip
        refine lv_aload_n hx hb dX12_four_7 rfl (lv_at hl 1 rfl) ?_
        refine va_get (D := (dC, dI)) (ci := 12) (v := .ref m5) (C := RX12) (T := TX12) (N := 59) hx hb hts (fun w h => List.mem_cons_of_mem _ (List.mem_append_right _ (List.mem_append_left _ h))) hown hK hP 0 rfl rfl 5 (by decide) (hts (.fieldLink RX12 23 "SagMemoryModel" "tape" "[B") (wl_mem 0 rfl)) (fun _ h9 => h9) rfl dX12_four_8 ?_
        refine lv_aload_n hx hb dX12_four_11 rfl (lv_at hl 1 rfl) ?_
        refine va_get (D := (dC, dI)) (ci := 12) (v := .int 14) (C := RX12) (T := TX12) (N := 59) hx hb hts (fun w h => List.mem_cons_of_mem _ (List.mem_append_right _ (List.mem_append_left _ h))) hown hK hP 0 rfl rfl 6 (by decide) (hts (.fieldLink RX12 133 "SagMemoryModel" "taped" "I") (wl_mem 1 rfl)) (fun _ h9 => h9) rfl dX12_four_12 ?_
        refine lv_iload_n hx hb dX12_four_15 rfl (lv_at hl 2 rfl) ?_
        refine lv_iload_n hx hb dX12_four_16 rfl (lv_at hl 0 rfl) ?_
        refine lv_ishr hx hb dX12_four_17 ?_
        refine lv_topi (fun xz12 exz12 => ?_)
        refine lv_i2b hx hb dX12_four_18 rfl ?_
        refine lv_topi (fun xz13 exz13 => ?_)
        refine va_bast hx hb hK hP hD hS 1 0 rfl rfl (by unfold vp_in; decide) dX12_four_19 (fun H locs hP hD hS => ?_)
        have hP : va_P (dC, dI) vwCl [(h0, .inr (12, [.int 0, .ref m1, .ref m2, .ref m3, .ref m4, .ref m5, .int 14, .int 0, .int 0, .int 0, .int 0, .long 0, .int 0, .int 0, .int 0, .int (-1), .ref m16, .ref m17, .ref m18, .ref m19, .ref m20, .ref m21, .ref m22, .ref m23, .int 0, .int 0, .int 0, .ref m27, .ref m28, .ref m29, .ref m30, .ref m31, .ref m32, .ref m33, .ref m34, .ref m35, .ref m36, .ref m37, .ref m38, .ref m39, .ref m40, .ref m41, .ref m42, .int 0, .int 0, .int 0, .ref m46, .int 0, .int 0, .int 0, .int 0, .int 0, .int 0, .ref m53, .int 0, .int 0, .int 0, .ref m57, .ref m58])), (m5, .inl (k5, 700, .inl (upd fz9 14 (vp_nar .byte xz13))))] H := hP
        have hD : va_D A [(h0, .inr (12, [.int 0, .ref m1, .ref m2, .ref m3, .ref m4, .ref m5, .int 14, .int 0, .int 0, .int 0, .int 0, .long 0, .int 0, .int 0, .int 0, .int (-1), .ref m16, .ref m17, .ref m18, .ref m19, .ref m20, .ref m21, .ref m22, .ref m23, .int 0, .int 0, .int 0, .ref m27, .ref m28, .ref m29, .ref m30, .ref m31, .ref m32, .ref m33, .ref m34, .ref m35, .ref m36, .ref m37, .ref m38, .ref m39, .ref m40, .ref m41, .ref m42, .int 0, .int 0, .int 0, .ref m46, .int 0, .int 0, .int 0, .int 0, .int 0, .int 0, .ref m53, .int 0, .int 0, .int 0, .ref m57, .ref m58])), (m5, .inl (k5, 700, .inl (upd fz9 14 (vp_nar .byte xz13))))] := hD
        generalize (upd fz9 14 (vp_nar .byte xz13)) = fz14 at hP hD
        refine lv_aload_n hx hb dX12_four_20 rfl (lv_at hl 1 rfl) ?_
        refine lv_dup hx hb dX12_four_21 rfl ?_
        refine va_get (D := (dC, dI)) (ci := 12) (v := .int 14) (C := RX12) (T := TX12) (N := 59) hx hb hts (fun w h => List.mem_cons_of_mem _ (List.mem_append_right _ (List.mem_append_left _ h))) hown hK hP 0 rfl rfl 6 (by decide) (hts (.fieldLink RX12 133 "SagMemoryModel" "taped" "I") (wl_mem 1 rfl)) (fun _ h9 => h9) rfl dX12_four_22 ?_
        refine lv_iconst (v := 1) hx hb dX12_four_25 (by decide) ?_
        refine lv_iadd hx hb dX12_four_26 ?_
        refine lv_topi (fun xz15 exz15 => ?_)
        obtain rfl : xz15 = 15 := exz15.trans (by decide)
        refine va_put (D := (dC, dI)) (ci := 12) (v := .int 15) (ty := .int) (C := RX12) (T := TX12) (N := 59) hx hb hts (fun w h => List.mem_cons_of_mem _ (List.mem_append_right _ (List.mem_append_left _ h))) tyX12 tyX12_ok nmX12 hown hK hP hD hS 0 rfl rfl 6 (by decide) (hts (.fieldLink RX12 133 "SagMemoryModel" "taped" "I") (wl_mem 1 rfl)) (fun _ h9 => h9) rfl (by decide +kernel) rfl rfl (Nat.le_of_ble_eq_true rfl) dX12_four_27 (fun H locs hP hD hS => ?_)
        have hP : va_P (dC, dI) vwCl [(h0, .inr (12, [.int 0, .ref m1, .ref m2, .ref m3, .ref m4, .ref m5, .int 15, .int 0, .int 0, .int 0, .int 0, .long 0, .int 0, .int 0, .int 0, .int (-1), .ref m16, .ref m17, .ref m18, .ref m19, .ref m20, .ref m21, .ref m22, .ref m23, .int 0, .int 0, .int 0, .ref m27, .ref m28, .ref m29, .ref m30, .ref m31, .ref m32, .ref m33, .ref m34, .ref m35, .ref m36, .ref m37, .ref m38, .ref m39, .ref m40, .ref m41, .ref m42, .int 0, .int 0, .int 0, .ref m46, .int 0, .int 0, .int 0, .int 0, .int 0, .int 0, .ref m53, .int 0, .int 0, .int 0, .ref m57, .ref m58])), (m5, .inl (k5, 700, .inl fz14))] H := hP
        have hD : va_D A [(h0, .inr (12, [.int 0, .ref m1, .ref m2, .ref m3, .ref m4, .ref m5, .int 15, .int 0, .int 0, .int 0, .int 0, .long 0, .int 0, .int 0, .int 0, .int (-1), .ref m16, .ref m17, .ref m18, .ref m19, .ref m20, .ref m21, .ref m22, .ref m23, .int 0, .int 0, .int 0, .ref m27, .ref m28, .ref m29, .ref m30, .ref m31, .ref m32, .ref m33, .ref m34, .ref m35, .ref m36, .ref m37, .ref m38, .ref m39, .ref m40, .ref m41, .ref m42, .int 0, .int 0, .int 0, .ref m46, .int 0, .int 0, .int 0, .int 0, .int 0, .int 0, .ref m53, .int 0, .int 0, .int 0, .ref m57, .ref m58])), (m5, .inl (k5, 700, .inl fz14))] := hD
        refine lv_iinc (v := 0) (lv' := [(2, .int 0), (0, .ref h0), (1, .int p1)]) hx hb dX12_four_30 hl (k := 0) rfl (by decide) (by decide) rfl (fun ls hl => ?_)
        refine lv_goto (tgt := 3) hx hb dX12_four_33 (by decide) ?_
        refine lv_iload_n hx hb dX12_four_3 rfl (lv_at hl 0 rfl) ?_
        refine lv_if_lt (tgt := 36) hx hb dX12_four_4 (by decide) (fun cz16 => ?_) (fun cz16 => ?_)
        · skip
          exact absurd cz16 (by decide)
        · skip
          refine lv_aload_n hx hb dX12_four_7 rfl (lv_at hl 1 rfl) ?_
          refine va_get (D := (dC, dI)) (ci := 12) (v := .ref m5) (C := RX12) (T := TX12) (N := 59) hx hb hts (fun w h => List.mem_cons_of_mem _ (List.mem_append_right _ (List.mem_append_left _ h))) hown hK hP 0 rfl rfl 5 (by decide) (hts (.fieldLink RX12 23 "SagMemoryModel" "tape" "[B") (wl_mem 0 rfl)) (fun _ h9 => h9) rfl dX12_four_8 ?_
          refine lv_aload_n hx hb dX12_four_11 rfl (lv_at hl 1 rfl) ?_
          refine va_get (D := (dC, dI)) (ci := 12) (v := .int 15) (C := RX12) (T := TX12) (N := 59) hx hb hts (fun w h => List.mem_cons_of_mem _ (List.mem_append_right _ (List.mem_append_left _ h))) hown hK hP 0 rfl rfl 6 (by decide) (hts (.fieldLink RX12 133 "SagMemoryModel" "taped" "I") (wl_mem 1 rfl)) (fun _ h9 => h9) rfl dX12_four_12 ?_
          refine lv_iload_n hx hb dX12_four_15 rfl (lv_at hl 2 rfl) ?_
          refine lv_iload_n hx hb dX12_four_16 rfl (lv_at hl 0 rfl) ?_
          refine lv_ishr hx hb dX12_four_17 ?_
          refine lv_topi (fun xz17 exz17 => ?_)
          refine lv_i2b hx hb dX12_four_18 rfl ?_
          refine lv_topi (fun xz18 exz18 => ?_)
          refine va_bast hx hb hK hP hD hS 1 0 rfl rfl (by unfold vp_in; decide) dX12_four_19 (fun H locs hP hD hS => ?_)
          have hP : va_P (dC, dI) vwCl [(h0, .inr (12, [.int 0, .ref m1, .ref m2, .ref m3, .ref m4, .ref m5, .int 15, .int 0, .int 0, .int 0, .int 0, .long 0, .int 0, .int 0, .int 0, .int (-1), .ref m16, .ref m17, .ref m18, .ref m19, .ref m20, .ref m21, .ref m22, .ref m23, .int 0, .int 0, .int 0, .ref m27, .ref m28, .ref m29, .ref m30, .ref m31, .ref m32, .ref m33, .ref m34, .ref m35, .ref m36, .ref m37, .ref m38, .ref m39, .ref m40, .ref m41, .ref m42, .int 0, .int 0, .int 0, .ref m46, .int 0, .int 0, .int 0, .int 0, .int 0, .int 0, .ref m53, .int 0, .int 0, .int 0, .ref m57, .ref m58])), (m5, .inl (k5, 700, .inl (upd fz14 15 (vp_nar .byte xz18))))] H := hP
          have hD : va_D A [(h0, .inr (12, [.int 0, .ref m1, .ref m2, .ref m3, .ref m4, .ref m5, .int 15, .int 0, .int 0, .int 0, .int 0, .long 0, .int 0, .int 0, .int 0, .int (-1), .ref m16, .ref m17, .ref m18, .ref m19, .ref m20, .ref m21, .ref m22, .ref m23, .int 0, .int 0, .int 0, .ref m27, .ref m28, .ref m29, .ref m30, .ref m31, .ref m32, .ref m33, .ref m34, .ref m35, .ref m36, .ref m37, .ref m38, .ref m39, .ref m40, .ref m41, .ref m42, .int 0, .int 0, .int 0, .ref m46, .int 0, .int 0, .int 0, .int 0, .int 0, .int 0, .ref m53, .int 0, .int 0, .int 0, .ref m57, .ref m58])), (m5, .inl (k5, 700, .inl (upd fz14 15 (vp_nar .byte xz18))))] := hD
          generalize (upd fz14 15 (vp_nar .byte xz18)) = fz19 at hP hD
          refine lv_aload_n hx hb dX12_four_20 rfl (lv_at hl 1 rfl) ?_
          refine lv_dup hx hb dX12_four_21 rfl ?_
          refine va_get (D := (dC, dI)) (ci := 12) (v := .int 15) (C := RX12) (T := TX12) (N := 59) hx hb hts (fun w h => List.mem_cons_of_mem _ (List.mem_append_right _ (List.mem_append_left _ h))) hown hK hP 0 rfl rfl 6 (by decide) (hts (.fieldLink RX12 133 "SagMemoryModel" "taped" "I") (wl_mem 1 rfl)) (fun _ h9 => h9) rfl dX12_four_22 ?_
          refine lv_iconst (v := 1) hx hb dX12_four_25 (by decide) ?_
          refine lv_iadd hx hb dX12_four_26 ?_
          refine lv_topi (fun xz20 exz20 => ?_)
          obtain rfl : xz20 = 16 := exz20.trans (by decide)
          refine va_put (D := (dC, dI)) (ci := 12) (v := .int 16) (ty := .int) (C := RX12) (T := TX12) (N := 59) hx hb hts (fun w h => List.mem_cons_of_mem _ (List.mem_append_right _ (List.mem_append_left _ h))) tyX12 tyX12_ok nmX12 hown hK hP hD hS 0 rfl rfl 6 (by decide) (hts (.fieldLink RX12 133 "SagMemoryModel" "taped" "I") (wl_mem 1 rfl)) (fun _ h9 => h9) rfl (by decide +kernel) rfl rfl (Nat.le_of_ble_eq_true rfl) dX12_four_27 (fun H locs hP hD hS => ?_)
          have hP : va_P (dC, dI) vwCl [(h0, .inr (12, [.int 0, .ref m1, .ref m2, .ref m3, .ref m4, .ref m5, .int 16, .int 0, .int 0, .int 0, .int 0, .long 0, .int 0, .int 0, .int 0, .int (-1), .ref m16, .ref m17, .ref m18, .ref m19, .ref m20, .ref m21, .ref m22, .ref m23, .int 0, .int 0, .int 0, .ref m27, .ref m28, .ref m29, .ref m30, .ref m31, .ref m32, .ref m33, .ref m34, .ref m35, .ref m36, .ref m37, .ref m38, .ref m39, .ref m40, .ref m41, .ref m42, .int 0, .int 0, .int 0, .ref m46, .int 0, .int 0, .int 0, .int 0, .int 0, .int 0, .ref m53, .int 0, .int 0, .int 0, .ref m57, .ref m58])), (m5, .inl (k5, 700, .inl fz19))] H := hP
          have hD : va_D A [(h0, .inr (12, [.int 0, .ref m1, .ref m2, .ref m3, .ref m4, .ref m5, .int 16, .int 0, .int 0, .int 0, .int 0, .long 0, .int 0, .int 0, .int 0, .int (-1), .ref m16, .ref m17, .ref m18, .ref m19, .ref m20, .ref m21, .ref m22, .ref m23, .int 0, .int 0, .int 0, .ref m27, .ref m28, .ref m29, .ref m30, .ref m31, .ref m32, .ref m33, .ref m34, .ref m35, .ref m36, .ref m37, .ref m38, .ref m39, .ref m40, .ref m41, .ref m42, .int 0, .int 0, .int 0, .ref m46, .int 0, .int 0, .int 0, .int 0, .int 0, .int 0, .ref m53, .int 0, .int 0, .int 0, .ref m57, .ref m58])), (m5, .inl (k5, 700, .inl fz19))] := hD
          refine lv_iinc (v := (-8)) (lv' := [(2, .int (-8)), (0, .ref h0), (1, .int p1)]) hx hb dX12_four_30 hl (k := 0) rfl (by decide) (by decide) rfl (fun ls hl => ?_)
          refine lv_goto (tgt := 3) hx hb dX12_four_33 (by decide) ?_
          refine lv_iload_n hx hb dX12_four_3 rfl (lv_at hl 0 rfl) ?_
          refine lv_if_lt (tgt := 36) hx hb dX12_four_4 (by decide) (fun cz21 => ?_) (fun cz21 => ?_)
          · skip
            have hP9 := hP.sub (ws' := [(h0, .inr (12, [.int 0, .ref m1, .ref m2, .ref m3, .ref m4, .ref m5, .int 16, .int 0, .int 0, .int 0, .int 0, .long 0, .int 0, .int 0, .int 0, .int (-1), .ref m16, .ref m17, .ref m18, .ref m19, .ref m20, .ref m21, .ref m22, .ref m23, .int 0, .int 0, .int 0, .ref m27, .ref m28, .ref m29, .ref m30, .ref m31, .ref m32, .ref m33, .ref m34, .ref m35, .ref m36, .ref m37, .ref m38, .ref m39, .ref m40, .ref m41, .ref m42, .int 0, .int 0, .int 0, .ref m46, .int 0, .int 0, .int 0, .int 0, .int 0, .int 0, .ref m53, .int 0, .int 0, .int 0, .ref m57, .ref m58])), (m5, .inl (k5, 700, .inl fz19))]) [0, 1] rfl
            have hD9 := hD.sub (ws' := [(h0, .inr (12, [.int 0, .ref m1, .ref m2, .ref m3, .ref m4, .ref m5, .int 16, .int 0, .int 0, .int 0, .int 0, .long 0, .int 0, .int 0, .int 0, .int (-1), .ref m16, .ref m17, .ref m18, .ref m19, .ref m20, .ref m21, .ref m22, .ref m23, .int 0, .int 0, .int 0, .ref m27, .ref m28, .ref m29, .ref m30, .ref m31, .ref m32, .ref m33, .ref m34, .ref m35, .ref m36, .ref m37, .ref m38, .ref m39, .ref m40, .ref m41, .ref m42, .int 0, .int 0, .int 0, .ref m46, .int 0, .int 0, .int 0, .int 0, .int 0, .int 0, .ref m53, .int 0, .int 0, .int 0, .ref m57, .ref m58])), (m5, .inl (k5, 700, .inl fz19))]) [0, 1] (by decide) rfl
            have hK9 := hK.sub (tys' := [(k5, .byte)]) [0] rfl
            exact W.vret hx hb hr (fun t ht hW => ⟨⟨(), rfl, trivial, fz19, by rw [ht]; exact hP9, va_K.moved hW.alike hK9, hD9⟩, hS.F ht⟩) hS.2.2 dX12_four_36
          · skip
            exact absurd cz21 (by decide)
def wk_f_X12_four_16 : List Cond := .code yX12_four cX12_four 3 none :: ([.fieldLink RX12 23 "SagMemoryModel" "tape" "[B", .fieldLink RX12 133 "SagMemoryModel" "taped" "I"] ++ (wsX120 ++ []))
theorem wkg_f_X12_four_16 : wk_f_X12_four_16.all goodWord = true := by decide +kernel
set_option maxHeartbeats 4000000 in
set_option maxRecDepth 100000 in
theorem f_X12_four_16 (l : Launch) (dC : Nat → ClassId) (dI : Nat → Nat → Nat) (sz : Nat) (h0 : Nat) (m1 : Nat) (m2 : Nat) (m3 : Nat) (m4 : Nat) (m5 : Nat) (m16 : Nat) (m17 : Nat) (m18 : Nat) (m19 : Nat) (m20 : Nat) (m21 : Nat) (m22 : Nat) (m23 : Nat) (m27 : Nat) (m28 : Nat) (m29 : Nat) (m30 : Nat) (m31 : Nat) (m32 : Nat) (m33 : Nat) (m34 : Nat) (m35 : Nat) (m36 : Nat) (m37 : Nat) (m38 : Nat) (m39 : Nat) (m40 : Nat) (m41 : Nat) (m42 : Nat) (m46 : Nat) (m53 : Nat) (m57 : Nat) (m58 : Nat) (k5 : ClassId) (f5 : Nat → Int32) (p1 : Int32) : Met l yX12_four wk_f_X12_four_16 ({ frames := 0, cells := 0, slots := 0, locals := 0 }) (va_Pc [.ref h0, .int p1] (fun U => U.heap.size = sz ∧ va_P (dC, dI) vwCl [(h0, .inr (12, [.int 0, .ref m1, .ref m2, .ref m3, .ref m4, .ref m5, .int 16, .int 0, .int 0, .int 0, .int 0, .long 0, .int 0, .int 0, .int 0, .int (-1), .ref m16, .ref m17, .ref m18, .ref m19, .ref m20, .ref m21, .ref m22, .ref m23, .int 0, .int 0, .int 0, .ref m27, .ref m28, .ref m29, .ref m30, .ref m31, .ref m32, .ref m33, .ref m34, .ref m35, .ref m36, .ref m37, .ref m38, .ref m39, .ref m40, .ref m41, .ref m42, .int 0, .int 0, .int 0, .ref m46, .int 0, .int 0, .int 0, .int 0, .int 0, .int 0, .ref m53, .int 0, .int 0, .int 0, .ref m57, .ref m58])), (m5, .inl (k5, 700, .inl f5))] U.heap ∧ va_K (dC, dI) vwCl [(k5, .byte)] U ∧ va_D (fun _ => True) [(h0, .inr (12, [.int 0, .ref m1, .ref m2, .ref m3, .ref m4, .ref m5, .int 16, .int 0, .int 0, .int 0, .int 0, .long 0, .int 0, .int 0, .int 0, .int (-1), .ref m16, .ref m17, .ref m18, .ref m19, .ref m20, .ref m21, .ref m22, .ref m23, .int 0, .int 0, .int 0, .ref m27, .ref m28, .ref m29, .ref m30, .ref m31, .ref m32, .ref m33, .ref m34, .ref m35, .ref m36, .ref m37, .ref m38, .ref m39, .ref m40, .ref m41, .ref m42, .int 0, .int 0, .int 0, .ref m46, .int 0, .int 0, .int 0, .int 0, .int 0, .int 0, .ref m53, .int 0, .int 0, .int 0, .ref m57, .ref m58])), (m5, .inl (k5, 700, .inl f5))])) (va_Qv (fun _ : Unit => True) (fun (_ : Unit) (t : State) => ∃ (e5 : Nat → Int32), va_P (dC, dI) vwCl [(h0, .inr (12, [.int 0, .ref m1, .ref m2, .ref m3, .ref m4, .ref m5, .int 20, .int 0, .int 0, .int 0, .int 0, .long 0, .int 0, .int 0, .int 0, .int (-1), .ref m16, .ref m17, .ref m18, .ref m19, .ref m20, .ref m21, .ref m22, .ref m23, .int 0, .int 0, .int 0, .ref m27, .ref m28, .ref m29, .ref m30, .ref m31, .ref m32, .ref m33, .ref m34, .ref m35, .ref m36, .ref m37, .ref m38, .ref m39, .ref m40, .ref m41, .ref m42, .int 0, .int 0, .int 0, .ref m46, .int 0, .int 0, .int 0, .int 0, .int 0, .int 0, .ref m53, .int 0, .int 0, .int 0, .ref m57, .ref m58])), (m5, .inl (k5, 700, .inl e5))] t.heap ∧ va_K (dC, dI) vwCl [(k5, .byte)] t ∧ va_D (va_A [(h0, .inr (12, [.int 0, .ref m1, .ref m2, .ref m3, .ref m4, .ref m5, .int 16, .int 0, .int 0, .int 0, .int 0, .long 0, .int 0, .int 0, .int 0, .int (-1), .ref m16, .ref m17, .ref m18, .ref m19, .ref m20, .ref m21, .ref m22, .ref m23, .int 0, .int 0, .int 0, .ref m27, .ref m28, .ref m29, .ref m30, .ref m31, .ref m32, .ref m33, .ref m34, .ref m35, .ref m36, .ref m37, .ref m38, .ref m39, .ref m40, .ref m41, .ref m42, .int 0, .int 0, .int 0, .ref m46, .int 0, .int 0, .int 0, .int 0, .int 0, .int 0, .ref m53, .int 0, .int 0, .int 0, .ref m57, .ref m58])), (m5, .inl (k5, 700, .inl f5))] sz) [(h0, .inr (12, [.int 0, .ref m1, .ref m2, .ref m3, .ref m4, .ref m5, .int 20, .int 0, .int 0, .int 0, .int 0, .long 0, .int 0, .int 0, .int 0, .int (-1), .ref m16, .ref m17, .ref m18, .ref m19, .ref m20, .ref m21, .ref m22, .ref m23, .int 0, .int 0, .int 0, .ref m27, .ref m28, .ref m29, .ref m30, .ref m31, .ref m32, .ref m33, .ref m34, .ref m35, .ref m36, .ref m37, .ref m38, .ref m39, .ref m40, .ref m41, .ref m42, .int 0, .int 0, .int 0, .ref m46, .int 0, .int 0, .int 0, .int 0, .int 0, .int 0, .ref m53, .int 0, .int 0, .int 0, .ref m57, .ref m58])), (m5, .inl (k5, 700, .inl e5))]) (va_A [(h0, .inr (12, [.int 0, .ref m1, .ref m2, .ref m3, .ref m4, .ref m5, .int 16, .int 0, .int 0, .int 0, .int 0, .long 0, .int 0, .int 0, .int 0, .int (-1), .ref m16, .ref m17, .ref m18, .ref m19, .ref m20, .ref m21, .ref m22, .ref m23, .int 0, .int 0, .int 0, .ref m27, .ref m28, .ref m29, .ref m30, .ref m31, .ref m32, .ref m33, .ref m34, .ref m35, .ref m36, .ref m37, .ref m38, .ref m39, .ref m40, .ref m41, .ref m42, .int 0, .int 0, .int 0, .ref m46, .int 0, .int 0, .int 0, .int 0, .int 0, .int 0, .ref m53, .int 0, .int 0, .int 0, .ref m57, .ref m58])), (m5, .inl (k5, 700, .inl f5))] sz)) 0 0 (va_A [(h0, .inr (12, [.int 0, .ref m1, .ref m2, .ref m3, .ref m4, .ref m5, .int 16, .int 0, .int 0, .int 0, .int 0, .long 0, .int 0, .int 0, .int 0, .int (-1), .ref m16, .ref m17, .ref m18, .ref m19, .ref m20, .ref m21, .ref m22, .ref m23, .int 0, .int 0, .int 0, .ref m27, .ref m28, .ref m29, .ref m30, .ref m31, .ref m32, .ref m33, .ref m34, .ref m35, .ref m36, .ref m37, .ref m38, .ref m39, .ref m40, .ref m41, .ref m42, .int 0, .int 0, .int 0, .ref m46, .int 0, .int 0, .int 0, .int 0, .int 0, .int 0, .ref m53, .int 0, .int 0, .int 0, .ref m57, .ref m58])), (m5, .inl (k5, 700, .inl f5))] sz) := by
  refine Met.ofW (cc := cX12_four) (maxL := 3) (ret := none) (by decide) rfl ?_
  intro p e s m args below meth c s₁ B hml hv
  obtain ⟨rfl, hsz, hP, hK, hD0⟩ := hv
  have hx := B.exec
  have hb := B.bytes
  have hr := B.returns
  have hts := atoms_spec (ws := wk_f_X12_four_16) B.pre
  have hown : s.vm.findClass RX12 = some m.cls := findClass_of_methodNamed B.named
  have hlocks := B.notSynchronized
  subst hsz
  have hD := hD0.self (sz := s.heap.size)
  generalize hAe : va_A [(h0, .inr (12, [.int 0, .ref m1, .ref m2, .ref m3, .ref m4, .ref m5, .int 16, .int 0, .int 0, .int 0, .int 0, .long 0, .int 0, .int 0, .int 0, .int (-1), .ref m16, .ref m17, .ref m18, .ref m19, .ref m20, .ref m21, .ref m22, .ref m23, .int 0, .int 0, .int 0, .ref m27, .ref m28, .ref m29, .ref m30, .ref m31, .ref m32, .ref m33, .ref m34, .ref m35, .ref m36, .ref m37, .ref m38, .ref m39, .ref m40, .ref m41, .ref m42, .int 0, .int 0, .int 0, .ref m46, .int 0, .int 0, .int 0, .int 0, .int 0, .int 0, .ref m53, .int 0, .int 0, .int 0, .ref m57, .ref m58])), (m5, .inl (k5, 700, .inl f5))] s.heap.size = A at hD ⊢
  have hA : ∀ q : Nat, s.heap.size ≤ q → A q := fun q h => by rw [← hAe]; exact Or.inr h
  have hS : va_S A s.heap s.heap [] := va_S.rf
  have hP : va_P (dC, dI) vwCl [(h0, .inr (12, [.int 0, .ref m1, .ref m2, .ref m3, .ref m4, .ref m5, .int 16, .int 0, .int 0, .int 0, .int 0, .long 0, .int 0, .int 0, .int 0, .int (-1), .ref m16, .ref m17, .ref m18, .ref m19, .ref m20, .ref m21, .ref m22, .ref m23, .int 0, .int 0, .int 0, .ref m27, .ref m28, .ref m29, .ref m30, .ref m31, .ref m32, .ref m33, .ref m34, .ref m35, .ref m36, .ref m37, .ref m38, .ref m39, .ref m40, .ref m41, .ref m42, .int 0, .int 0, .int 0, .ref m46, .int 0, .int 0, .int 0, .int 0, .int 0, .int 0, .ref m53, .int 0, .int 0, .int 0, .ref m57, .ref m58])), (m5, .inl (k5, 700, .inl f5))] s.heap := hP
  have hl := lv_entry ([.ref h0, .int p1]) (n := 3) (Nat.le_of_ble_eq_true rfl)
  rw [lg_entry_eq]
  generalize (lg_sl ([.ref h0, .int p1]) ++ List.replicate (3 - (lg_sl ([.ref h0, .int p1])).length) Slot.unset).toArray = ls at hl ⊢
  have hl : lv_has ls 3 [(0, .ref h0), (1, .int p1)] := hl
  refine lv_bipush (v := 24) hx hb dX12_four_0 (by decide) ?_
  refine lv_istore_n (lv' := [(2, .int 24), (0, .ref h0), (1, .int p1)]) hx hb dX12_four_2 rfl hl (by decide) rfl (fun ls hl => ?_)
  refine lv_iload_n hx hb dX12_four_3 rfl (lv_at hl 0 rfl) ?_
  refine lv_if_lt (tgt := 36) hx hb dX12_four_4 (by decide) (fun cz1 => ?_) (fun cz1 => ?_)
  · skip
    exact absurd cz1 (by decide)
  · skip
    refine lv_aload_n hx hb dX12_four_7 rfl (lv_at hl 1 rfl) ?_
    refine va_get (D := (dC, dI)) (ci := 12) (v := .ref m5) (C := RX12) (T := TX12) (N := 59) hx hb hts (fun w h => List.mem_cons_of_mem _ (List.mem_append_right _ (List.mem_append_left _ h))) hown hK hP 0 rfl rfl 5 (by decide) (hts (.fieldLink RX12 23 "SagMemoryModel" "tape" "[B") (wl_mem 0 rfl)) (fun _ h9 => h9) rfl dX12_four_8 ?_
    refine lv_aload_n hx hb dX12_four_11 rfl (lv_at hl 1 rfl) ?_
    refine va_get (D := (dC, dI)) (ci := 12) (v := .int 16) (C := RX12) (T := TX12) (N := 59) hx hb hts (fun w h => List.mem_cons_of_mem _ (List.mem_append_right _ (List.mem_append_left _ h))) hown hK hP 0 rfl rfl 6 (by decide) (hts (.fieldLink RX12 133 "SagMemoryModel" "taped" "I") (wl_mem 1 rfl)) (fun _ h9 => h9) rfl dX12_four_12 ?_
    refine lv_iload_n hx hb dX12_four_15 rfl (lv_at hl 2 rfl) ?_
    refine lv_iload_n hx hb dX12_four_16 rfl (lv_at hl 0 rfl) ?_
    refine lv_ishr hx hb dX12_four_17 ?_
    refine lv_topi (fun xz2 exz2 => ?_)
    refine lv_i2b hx hb dX12_four_18 rfl ?_
    refine lv_topi (fun xz3 exz3 => ?_)
    refine va_bast hx hb hK hP hD hS 1 0 rfl rfl (by unfold vp_in; decide) dX12_four_19 (fun H locs hP hD hS => ?_)
    have hP : va_P (dC, dI) vwCl [(h0, .inr (12, [.int 0, .ref m1, .ref m2, .ref m3, .ref m4, .ref m5, .int 16, .int 0, .int 0, .int 0, .int 0, .long 0, .int 0, .int 0, .int 0, .int (-1), .ref m16, .ref m17, .ref m18, .ref m19, .ref m20, .ref m21, .ref m22, .ref m23, .int 0, .int 0, .int 0, .ref m27, .ref m28, .ref m29, .ref m30, .ref m31, .ref m32, .ref m33, .ref m34, .ref m35, .ref m36, .ref m37, .ref m38, .ref m39, .ref m40, .ref m41, .ref m42, .int 0, .int 0, .int 0, .ref m46, .int 0, .int 0, .int 0, .int 0, .int 0, .int 0, .ref m53, .int 0, .int 0, .int 0, .ref m57, .ref m58])), (m5, .inl (k5, 700, .inl (upd f5 16 (vp_nar .byte xz3))))] H := hP
    have hD : va_D A [(h0, .inr (12, [.int 0, .ref m1, .ref m2, .ref m3, .ref m4, .ref m5, .int 16, .int 0, .int 0, .int 0, .int 0, .long 0, .int 0, .int 0, .int 0, .int (-1), .ref m16, .ref m17, .ref m18, .ref m19, .ref m20, .ref m21, .ref m22, .ref m23, .int 0, .int 0, .int 0, .ref m27, .ref m28, .ref m29, .ref m30, .ref m31, .ref m32, .ref m33, .ref m34, .ref m35, .ref m36, .ref m37, .ref m38, .ref m39, .ref m40, .ref m41, .ref m42, .int 0, .int 0, .int 0, .ref m46, .int 0, .int 0, .int 0, .int 0, .int 0, .int 0, .ref m53, .int 0, .int 0, .int 0, .ref m57, .ref m58])), (m5, .inl (k5, 700, .inl (upd f5 16 (vp_nar .byte xz3))))] := hD
    generalize (upd f5 16 (vp_nar .byte xz3)) = fz4 at hP hD
    refine lv_aload_n hx hb dX12_four_20 rfl (lv_at hl 1 rfl) ?_
    refine lv_dup hx hb dX12_four_21 rfl ?_
    refine va_get (D := (dC, dI)) (ci := 12) (v := .int 16) (C := RX12) (T := TX12) (N := 59) hx hb hts (fun w h => List.mem_cons_of_mem _ (List.mem_append_right _ (List.mem_append_left _ h))) hown hK hP 0 rfl rfl 6 (by decide) (hts (.fieldLink RX12 133 "SagMemoryModel" "taped" "I") (wl_mem 1 rfl)) (fun _ h9 => h9) rfl dX12_four_22 ?_
    refine lv_iconst (v := 1) hx hb dX12_four_25 (by decide) ?_
    refine lv_iadd hx hb dX12_four_26 ?_
    refine lv_topi (fun xz5 exz5 => ?_)
    obtain rfl : xz5 = 17 := exz5.trans (by decide)
    refine va_put (D := (dC, dI)) (ci := 12) (v := .int 17) (ty := .int) (C := RX12) (T := TX12) (N := 59) hx hb hts (fun w h => List.mem_cons_of_mem _ (List.mem_append_right _ (List.mem_append_left _ h))) tyX12 tyX12_ok nmX12 hown hK hP hD hS 0 rfl rfl 6 (by decide) (hts (.fieldLink RX12 133 "SagMemoryModel" "taped" "I") (wl_mem 1 rfl)) (fun _ h9 => h9) rfl (by decide +kernel) rfl rfl (Nat.le_of_ble_eq_true rfl) dX12_four_27 (fun H locs hP hD hS => ?_)
    have hP : va_P (dC, dI) vwCl [(h0, .inr (12, [.int 0, .ref m1, .ref m2, .ref m3, .ref m4, .ref m5, .int 17, .int 0, .int 0, .int 0, .int 0, .long 0, .int 0, .int 0, .int 0, .int (-1), .ref m16, .ref m17, .ref m18, .ref m19, .ref m20, .ref m21, .ref m22, .ref m23, .int 0, .int 0, .int 0, .ref m27, .ref m28, .ref m29, .ref m30, .ref m31, .ref m32, .ref m33, .ref m34, .ref m35, .ref m36, .ref m37, .ref m38, .ref m39, .ref m40, .ref m41, .ref m42, .int 0, .int 0, .int 0, .ref m46, .int 0, .int 0, .int 0, .int 0, .int 0, .int 0, .ref m53, .int 0, .int 0, .int 0, .ref m57, .ref m58])), (m5, .inl (k5, 700, .inl fz4))] H := hP
    have hD : va_D A [(h0, .inr (12, [.int 0, .ref m1, .ref m2, .ref m3, .ref m4, .ref m5, .int 17, .int 0, .int 0, .int 0, .int 0, .long 0, .int 0, .int 0, .int 0, .int (-1), .ref m16, .ref m17, .ref m18, .ref m19, .ref m20, .ref m21, .ref m22, .ref m23, .int 0, .int 0, .int 0, .ref m27, .ref m28, .ref m29, .ref m30, .ref m31, .ref m32, .ref m33, .ref m34, .ref m35, .ref m36, .ref m37, .ref m38, .ref m39, .ref m40, .ref m41, .ref m42, .int 0, .int 0, .int 0, .ref m46, .int 0, .int 0, .int 0, .int 0, .int 0, .int 0, .ref m53, .int 0, .int 0, .int 0, .ref m57, .ref m58])), (m5, .inl (k5, 700, .inl fz4))] := hD
    refine lv_iinc (v := 16) (lv' := [(2, .int 16), (0, .ref h0), (1, .int p1)]) hx hb dX12_four_30 hl (k := 0) rfl (by decide) (by decide) rfl (fun ls hl => ?_)
    refine lv_goto (tgt := 3) hx hb dX12_four_33 (by decide) ?_
    refine lv_iload_n hx hb dX12_four_3 rfl (lv_at hl 0 rfl) ?_
    refine lv_if_lt (tgt := 36) hx hb dX12_four_4 (by decide) (fun cz6 => ?_) (fun cz6 => ?_)
    · skip
      exact absurd cz6 (by decide)
    · skip
      refine lv_aload_n hx hb dX12_four_7 rfl (lv_at hl 1 rfl) ?_
      refine va_get (D := (dC, dI)) (ci := 12) (v := .ref m5) (C := RX12) (T := TX12) (N := 59) hx hb hts (fun w h => List.mem_cons_of_mem _ (List.mem_append_right _ (List.mem_append_left _ h))) hown hK hP 0 rfl rfl 5 (by decide) (hts (.fieldLink RX12 23 "SagMemoryModel" "tape" "[B") (wl_mem 0 rfl)) (fun _ h9 => h9) rfl dX12_four_8 ?_
      refine lv_aload_n hx hb dX12_four_11 rfl (lv_at hl 1 rfl) ?_
      refine va_get (D := (dC, dI)) (ci := 12) (v := .int 17) (C := RX12) (T := TX12) (N := 59) hx hb hts (fun w h => List.mem_cons_of_mem _ (List.mem_append_right _ (List.mem_append_left _ h))) hown hK hP 0 rfl rfl 6 (by decide) (hts (.fieldLink RX12 133 "SagMemoryModel" "taped" "I") (wl_mem 1 rfl)) (fun _ h9 => h9) rfl dX12_four_12 ?_
      refine lv_iload_n hx hb dX12_four_15 rfl (lv_at hl 2 rfl) ?_
      refine lv_iload_n hx hb dX12_four_16 rfl (lv_at hl 0 rfl) ?_
      refine lv_ishr hx hb dX12_four_17 ?_
      refine lv_topi (fun xz7 exz7 => ?_)
      refine lv_i2b hx hb dX12_four_18 rfl ?_
      refine lv_topi (fun xz8 exz8 => ?_)
      refine va_bast hx hb hK hP hD hS 1 0 rfl rfl (by unfold vp_in; decide) dX12_four_19 (fun H locs hP hD hS => ?_)
      have hP : va_P (dC, dI) vwCl [(h0, .inr (12, [.int 0, .ref m1, .ref m2, .ref m3, .ref m4, .ref m5, .int 17, .int 0, .int 0, .int 0, .int 0, .long 0, .int 0, .int 0, .int 0, .int (-1), .ref m16, .ref m17, .ref m18, .ref m19, .ref m20, .ref m21, .ref m22, .ref m23, .int 0, .int 0, .int 0, .ref m27, .ref m28, .ref m29, .ref m30, .ref m31, .ref m32, .ref m33, .ref m34, .ref m35, .ref m36, .ref m37, .ref m38, .ref m39, .ref m40, .ref m41, .ref m42, .int 0, .int 0, .int 0, .ref m46, .int 0, .int 0, .int 0, .int 0, .int 0, .int 0, .ref m53, .int 0, .int 0, .int 0, .ref m57, .ref m58])), (m5, .inl (k5, 700, .inl (upd fz4 17 (vp_nar .byte xz8))))] H := hP
      have hD : va_D A [(h0, .inr (12, [.int 0, .ref m1, .ref m2, .ref m3, .ref m4, .ref m5, .int 17, .int 0, .int 0, .int 0, .int 0, .long 0, .int 0, .int 0, .int 0, .int (-1), .ref m16, .ref m17, .ref m18, .ref m19, .ref m20, .ref m21, .ref m22, .ref m23, .int 0, .int 0, .int 0, .ref m27, .ref m28, .ref m29, .ref m30, .ref m31, .ref m32, .ref m33, .ref m34, .ref m35, .ref m36, .ref m37, .ref m38, .ref m39, .ref m40, .ref m41, .ref m42, .int 0, .int 0, .int 0, .ref m46, .int 0, .int 0, .int 0, .int 0, .int 0, .int 0, .ref m53, .int 0, .int 0, .int 0, .ref m57, .ref m58])), (m5, .inl (k5, 700, .inl (upd fz4 17 (vp_nar .byte xz8))))] := hD
      generalize (upd fz4 17 (vp_nar .byte xz8)) = fz9 at hP hD
      refine lv_aload_n hx hb dX12_four_20 rfl (lv_at hl 1 rfl) ?_
      refine lv_dup hx hb dX12_four_21 rfl ?_
      refine va_get (D := (dC, dI)) (ci := 12) (v := .int 17) (C := RX12) (T := TX12) (N := 59) hx hb hts (fun w h => List.mem_cons_of_mem _ (List.mem_append_right _ (List.mem_append_left _ h))) hown hK hP 0 rfl rfl 6 (by decide) (hts (.fieldLink RX12 133 "SagMemoryModel" "taped" "I") (wl_mem 1 rfl)) (fun _ h9 => h9) rfl dX12_four_22 ?_
      refine lv_iconst (v := 1) hx hb dX12_four_25 (by decide) ?_
      refine lv_iadd hx hb dX12_four_26 ?_
      refine lv_topi (fun xz10 exz10 => ?_)
      obtain rfl : xz10 = 18 := exz10.trans (by decide)
      refine va_put (D := (dC, dI)) (ci := 12) (v := .int 18) (ty := .int) (C := RX12) (T := TX12) (N := 59) hx hb hts (fun w h => List.mem_cons_of_mem _ (List.mem_append_right _ (List.mem_append_left _ h))) tyX12 tyX12_ok nmX12 hown hK hP hD hS 0 rfl rfl 6 (by decide) (hts (.fieldLink RX12 133 "SagMemoryModel" "taped" "I") (wl_mem 1 rfl)) (fun _ h9 => h9) rfl (by decide +kernel) rfl rfl (Nat.le_of_ble_eq_true rfl) dX12_four_27 (fun H locs hP hD hS => ?_)
      have hP : va_P (dC, dI) vwCl [(h0, .inr (12, [.int 0, .ref m1, .ref m2, .ref m3, .ref m4, .ref m5, .int 18, .int 0, .int 0, .int 0, .int 0, .long 0, .int 0, .int 0, .int 0, .int (-1), .ref m16, .ref m17, .ref m18, .ref m19, .ref m20, .ref m21, .ref m22, .ref m23, .int 0, .int 0, .int 0, .ref m27, .ref m28, .ref m29, .ref m30, .ref m31, .ref m32, .ref m33, .ref m34, .ref m35, .ref m36, .ref m37, .ref m38, .ref m39, .ref m40, .ref m41, .ref m42, .int 0, .int 0, .int 0, .ref m46, .int 0, .int 0, .int 0, .int 0, .int 0, .int 0, .ref m53, .int 0, .int 0, .int 0, .ref m57, .ref m58])), (m5, .inl (k5, 700, .inl fz9))] H := hP
      have hD : va_D A [(h0, .inr (12, [.int 0, .ref m1, .ref m2, .ref m3, .ref m4, .ref m5, .int 18, .int 0, .int 0, .int 0, .int 0, .long 0, .int 0, .int 0, .int 0, .int (-1), .ref m16, .ref m17, .ref m18, .ref m19, .ref m20, .ref m21, .ref m22, .ref m23, .int 0, .int 0, .int 0, .ref m27, .ref m28, .ref m29, .ref m30, .ref m31, .ref m32, .ref m33, .ref m34, .ref m35, .ref m36, .ref m37, .ref m38, .ref m39, .ref m40, .ref m41, .ref m42, .int 0, .int 0, .int 0, .ref m46, .int 0, .int 0, .int 0, .int 0, .int 0, .int 0, .ref m53, .int 0, .int 0, .int 0, .ref m57, .ref m58])), (m5, .inl (k5, 700, .inl fz9))] := hD
      refine lv_iinc (v := 8) (lv' := [(2, .int 8), (0, .ref h0), (1, .int p1)]) hx hb dX12_four_30 hl (k := 0) rfl (by decide) (by decide) rfl (fun ls hl => ?_)
      refine lv_goto (tgt := 3) hx hb dX12_four_33 (by decide) ?_
      refine lv_iload_n hx hb dX12_four_3 rfl (lv_at hl 0 rfl) ?_
      refine lv_if_lt (tgt := 36) hx hb dX12_four_4 (by decide) (fun cz11 => ?_) (fun cz11 => ?_)
      · skip
        exact absurd cz11 (by decide)
      · skip
        refine lv_aload_n hx hb dX12_four_7 rfl (lv_at hl 1 rfl) ?_
        refine va_get (D := (dC, dI)) (ci := 12) (v := .ref m5) (C := RX12) (T := TX12) (N := 59) hx hb hts (fun w h => List.mem_cons_of_mem _ (List.mem_append_right _ (List.mem_append_left _ h))) hown hK hP 0 rfl rfl 5 (by decide) (hts (.fieldLink RX12 23 "SagMemoryModel" "tape" "[B") (wl_mem 0 rfl)) (fun _ h9 => h9) rfl dX12_four_8 ?_
        refine lv_aload_n hx hb dX12_four_11 rfl (lv_at hl 1 rfl) ?_
        refine va_get (D := (dC, dI)) (ci := 12) (v := .int 18) (C := RX12) (T := TX12) (N := 59) hx hb hts (fun w h => List.mem_cons_of_mem _ (List.mem_append_right _ (List.mem_append_left _ h))) hown hK hP 0 rfl rfl 6 (by decide) (hts (.fieldLink RX12 133 "SagMemoryModel" "taped" "I") (wl_mem 1 rfl)) (fun _ h9 => h9) rfl dX12_four_12 ?_
        refine lv_iload_n hx hb dX12_four_15 rfl (lv_at hl 2 rfl) ?_
        refine lv_iload_n hx hb dX12_four_16 rfl (lv_at hl 0 rfl) ?_
        refine lv_ishr hx hb dX12_four_17 ?_
        refine lv_topi (fun xz12 exz12 => ?_)
        refine lv_i2b hx hb dX12_four_18 rfl ?_
        refine lv_topi (fun xz13 exz13 => ?_)
        refine va_bast hx hb hK hP hD hS 1 0 rfl rfl (by unfold vp_in; decide) dX12_four_19 (fun H locs hP hD hS => ?_)
        have hP : va_P (dC, dI) vwCl [(h0, .inr (12, [.int 0, .ref m1, .ref m2, .ref m3, .ref m4, .ref m5, .int 18, .int 0, .int 0, .int 0, .int 0, .long 0, .int 0, .int 0, .int 0, .int (-1), .ref m16, .ref m17, .ref m18, .ref m19, .ref m20, .ref m21, .ref m22, .ref m23, .int 0, .int 0, .int 0, .ref m27, .ref m28, .ref m29, .ref m30, .ref m31, .ref m32, .ref m33, .ref m34, .ref m35, .ref m36, .ref m37, .ref m38, .ref m39, .ref m40, .ref m41, .ref m42, .int 0, .int 0, .int 0, .ref m46, .int 0, .int 0, .int 0, .int 0, .int 0, .int 0, .ref m53, .int 0, .int 0, .int 0, .ref m57, .ref m58])), (m5, .inl (k5, 700, .inl (upd fz9 18 (vp_nar .byte xz13))))] H := hP
        have hD : va_D A [(h0, .inr (12, [.int 0, .ref m1, .ref m2, .ref m3, .ref m4, .ref m5, .int 18, .int 0, .int 0, .int 0, .int 0, .long 0, .int 0, .int 0, .int 0, .int (-1), .ref m16, .ref m17, .ref m18, .ref m19, .ref m20, .ref m21, .ref m22, .ref m23, .int 0, .int 0, .int 0, .ref m27, .ref m28, .ref m29, .ref m30, .ref m31, .ref m32, .ref m33, .ref m34, .ref m35, .ref m36, .ref m37, .ref m38, .ref m39, .ref m40, .ref m41, .ref m42, .int 0, .int 0, .int 0, .ref m46, .int 0, .int 0, .int 0, .int 0, .int 0, .int 0, .ref m53, .int 0, .int 0, .int 0, .ref m57, .ref m58])), (m5, .inl (k5, 700, .inl (upd fz9 18 (vp_nar .byte xz13))))] := hD
        generalize (upd fz9 18 (vp_nar .byte xz13)) = fz14 at hP hD
        refine lv_aload_n hx hb dX12_four_20 rfl (lv_at hl 1 rfl) ?_
        refine lv_dup hx hb dX12_four_21 rfl ?_
        refine va_get (D := (dC, dI)) (ci := 12) (v := .int 18) (C := RX12) (T := TX12) (N := 59) hx hb hts (fun w h => List.mem_cons_of_mem _ (List.mem_append_right _ (List.mem_append_left _ h))) hown hK hP 0 rfl rfl 6 (by decide) (hts (.fieldLink RX12 133 "SagMemoryModel" "taped" "I") (wl_mem 1 rfl)) (fun _ h9 => h9) rfl dX12_four_22 ?_
        refine lv_iconst (v := 1) hx hb dX12_four_25 (by decide) ?_
        refine lv_iadd hx hb dX12_four_26 ?_
        refine lv_topi (fun xz15 exz15 => ?_)
        obtain rfl : xz15 = 19 := exz15.trans (by decide)
        refine va_put (D := (dC, dI)) (ci := 12) (v := .int 19) (ty := .int) (C := RX12) (T := TX12) (N := 59) hx hb hts (fun w h => List.mem_cons_of_mem _ (List.mem_append_right _ (List.mem_append_left _ h))) tyX12 tyX12_ok nmX12 hown hK hP hD hS 0 rfl rfl 6 (by decide) (hts (.fieldLink RX12 133 "SagMemoryModel" "taped" "I") (wl_mem 1 rfl)) (fun _ h9 => h9) rfl (by decide +kernel) rfl rfl (Nat.le_of_ble_eq_true rfl) dX12_four_27 (fun H locs hP hD hS => ?_)
        have hP : va_P (dC, dI) vwCl [(h0, .inr (12, [.int 0, .ref m1, .ref m2, .ref m3, .ref m4, .ref m5, .int 19, .int 0, .int 0, .int 0, .int 0, .long 0, .int 0, .int 0, .int 0, .int (-1), .ref m16, .ref m17, .ref m18, .ref m19, .ref m20, .ref m21, .ref m22, .ref m23, .int 0, .int 0, .int 0, .ref m27, .ref m28, .ref m29, .ref m30, .ref m31, .ref m32, .ref m33, .ref m34, .ref m35, .ref m36, .ref m37, .ref m38, .ref m39, .ref m40, .ref m41, .ref m42, .int 0, .int 0, .int 0, .ref m46, .int 0, .int 0, .int 0, .int 0, .int 0, .int 0, .ref m53, .int 0, .int 0, .int 0, .ref m57, .ref m58])), (m5, .inl (k5, 700, .inl fz14))] H := hP
        have hD : va_D A [(h0, .inr (12, [.int 0, .ref m1, .ref m2, .ref m3, .ref m4, .ref m5, .int 19, .int 0, .int 0, .int 0, .int 0, .long 0, .int 0, .int 0, .int 0, .int (-1), .ref m16, .ref m17, .ref m18, .ref m19, .ref m20, .ref m21, .ref m22, .ref m23, .int 0, .int 0, .int 0, .ref m27, .ref m28, .ref m29, .ref m30, .ref m31, .ref m32, .ref m33, .ref m34, .ref m35, .ref m36, .ref m37, .ref m38, .ref m39, .ref m40, .ref m41, .ref m42, .int 0, .int 0, .int 0, .ref m46, .int 0, .int 0, .int 0, .int 0, .int 0, .int 0, .ref m53, .int 0, .int 0, .int 0, .ref m57, .ref m58])), (m5, .inl (k5, 700, .inl fz14))] := hD
        refine lv_iinc (v := 0) (lv' := [(2, .int 0), (0, .ref h0), (1, .int p1)]) hx hb dX12_four_30 hl (k := 0) rfl (by decide) (by decide) rfl (fun ls hl => ?_)
        refine lv_goto (tgt := 3) hx hb dX12_four_33 (by decide) ?_
        refine lv_iload_n hx hb dX12_four_3 rfl (lv_at hl 0 rfl) ?_
        refine lv_if_lt (tgt := 36) hx hb dX12_four_4 (by decide) (fun cz16 => ?_) (fun cz16 => ?_)
        · skip
          exact absurd cz16 (by decide)
        · skip
          refine lv_aload_n hx hb dX12_four_7 rfl (lv_at hl 1 rfl) ?_
          refine va_get (D := (dC, dI)) (ci := 12) (v := .ref m5) (C := RX12) (T := TX12) (N := 59) hx hb hts (fun w h => List.mem_cons_of_mem _ (List.mem_append_right _ (List.mem_append_left _ h))) hown hK hP 0 rfl rfl 5 (by decide) (hts (.fieldLink RX12 23 "SagMemoryModel" "tape" "[B") (wl_mem 0 rfl)) (fun _ h9 => h9) rfl dX12_four_8 ?_
          refine lv_aload_n hx hb dX12_four_11 rfl (lv_at hl 1 rfl) ?_
          refine va_get (D := (dC, dI)) (ci := 12) (v := .int 19) (C := RX12) (T := TX12) (N := 59) hx hb hts (fun w h => List.mem_cons_of_mem _ (List.mem_append_right _ (List.mem_append_left _ h))) hown hK hP 0 rfl rfl 6 (by decide) (hts (.fieldLink RX12 133 "SagMemoryModel" "taped" "I") (wl_mem 1 rfl)) (fun _ h9 => h9) rfl dX12_four_12 ?_
          refine lv_iload_n hx hb dX12_four_15 rfl (lv_at hl 2 rfl) ?_
          refine lv_iload_n hx hb dX12_four_16 rfl (lv_at hl 0 rfl) ?_
          refine lv_ishr hx hb dX12_four_17 ?_
          refine lv_topi (fun xz17 exz17 => ?_)
          refine lv_i2b hx hb dX12_four_18 rfl ?_
          refine lv_topi (fun xz18 exz18 => ?_)
          refine va_bast hx hb hK hP hD hS 1 0 rfl rfl (by unfold vp_in; decide) dX12_four_19 (fun H locs hP hD hS => ?_)
          have hP : va_P (dC, dI) vwCl [(h0, .inr (12, [.int 0, .ref m1, .ref m2, .ref m3, .ref m4, .ref m5, .int 19, .int 0, .int 0, .int 0, .int 0, .long 0, .int 0, .int 0, .int 0, .int (-1), .ref m16, .ref m17, .ref m18, .ref m19, .ref m20, .ref m21, .ref m22, .ref m23, .int 0, .int 0, .int 0, .ref m27, .ref m28, .ref m29, .ref m30, .ref m31, .ref m32, .ref m33, .ref m34, .ref m35, .ref m36, .ref m37, .ref m38, .ref m39, .ref m40, .ref m41, .ref m42, .int 0, .int 0, .int 0, .ref m46, .int 0, .int 0, .int 0, .int 0, .int 0, .int 0, .ref m53, .int 0, .int 0, .int 0, .ref m57, .ref m58])), (m5, .inl (k5, 700, .inl (upd fz14 19 (vp_nar .byte xz18))))] H := hP
          have hD : va_D A [(h0, .inr (12, [.int 0, .ref m1, .ref m2, .ref m3, .ref m4, .ref m5, .int 19, .int 0, .int 0, .int 0, .int 0, .long 0, .int 0, .int 0, .int 0, .int (-1), .ref m16, .ref m17, .ref m18, .ref m19, .ref m20, .ref m21, .ref m22, .ref m23, .int 0, .int 0, .int 0, .ref m27, .ref m28, .ref m29, .ref m30, .ref m31, .ref m32, .ref m33, .ref m34, .ref m35, .ref m36, .ref m37, .ref m38, .ref m39, .ref m40, .ref m41, .ref m42, .int 0, .int 0, .int 0, .ref m46, .int 0, .int 0, .int 0, .int 0, .int 0, .int 0, .ref m53, .int 0, .int 0, .int 0, .ref m57, .ref m58])), (m5, .inl (k5, 700, .inl (upd fz14 19 (vp_nar .byte xz18))))] := hD
          generalize (upd fz14 19 (vp_nar .byte xz18)) = fz19 at hP hD
          refine lv_aload_n hx hb dX12_four_20 rfl (lv_at hl 1 rfl) ?_
          refine lv_dup hx hb dX12_four_21 rfl ?_
          refine va_get (D := (dC, dI)) (ci := 12) (v := .int 19) (C := RX12) (T := TX12) (N := 59) hx hb hts (fun w h => List.mem_cons_of_mem _ (List.mem_append_right _ (List.mem_append_left _ h))) hown hK hP 0 rfl rfl 6 (by decide) (hts (.fieldLink RX12 133 "SagMemoryModel" "taped" "I") (wl_mem 1 rfl)) (fun _ h9 => h9) rfl dX12_four_22 ?_
          refine lv_iconst (v := 1) hx hb dX12_four_25 (by decide) ?_
          refine lv_iadd hx hb dX12_four_26 ?_
          refine lv_topi (fun xz20 exz20 => ?_)
          obtain rfl : xz20 = 20 := exz20.trans (by decide)
          refine va_put (D := (dC, dI)) (ci := 12) (v := .int 20) (ty := .int) (C := RX12) (T := TX12) (N := 59) hx hb hts (fun w h => List.mem_cons_of_mem _ (List.mem_append_right _ (List.mem_append_left _ h))) tyX12 tyX12_ok nmX12 hown hK hP hD hS 0 rfl rfl 6 (by decide) (hts (.fieldLink RX12 133 "SagMemoryModel" "taped" "I") (wl_mem 1 rfl)) (fun _ h9 => h9) rfl (by decide +kernel) rfl rfl (Nat.le_of_ble_eq_true rfl) dX12_four_27 (fun H locs hP hD hS => ?_)
          have hP : va_P (dC, dI) vwCl [(h0, .inr (12, [.int 0, .ref m1, .ref m2, .ref m3, .ref m4, .ref m5, .int 20, .int 0, .int 0, .int 0, .int 0, .long 0, .int 0, .int 0, .int 0, .int (-1), .ref m16, .ref m17, .ref m18, .ref m19, .ref m20, .ref m21, .ref m22, .ref m23, .int 0, .int 0, .int 0, .ref m27, .ref m28, .ref m29, .ref m30, .ref m31, .ref m32, .ref m33, .ref m34, .ref m35, .ref m36, .ref m37, .ref m38, .ref m39, .ref m40, .ref m41, .ref m42, .int 0, .int 0, .int 0, .ref m46, .int 0, .int 0, .int 0, .int 0, .int 0, .int 0, .ref m53, .int 0, .int 0, .int 0, .ref m57, .ref m58])), (m5, .inl (k5, 700, .inl fz19))] H := hP
          have hD : va_D A [(h0, .inr (12, [.int 0, .ref m1, .ref m2, .ref m3, .ref m4, .ref m5, .int 20, .int 0, .int 0, .int 0, .int 0, .long 0, .int 0, .int 0, .int 0, .int (-1), .ref m16, .ref m17, .ref m18, .ref m19, .ref m20, .ref m21, .ref m22, .ref m23, .int 0, .int 0, .int 0, .ref m27, .ref m28, .ref m29, .ref m30, .ref m31, .ref m32, .ref m33, .ref m34, .ref m35, .ref m36, .ref m37, .ref m38, .ref m39, .ref m40, .ref m41, .ref m42, .int 0, .int 0, .int 0, .ref m46, .int 0, .int 0, .int 0, .int 0, .int 0, .int 0, .ref m53, .int 0, .int 0, .int 0, .ref m57, .ref m58])), (m5, .inl (k5, 700, .inl fz19))] := hD
          refine lv_iinc (v := (-8)) (lv' := [(2, .int (-8)), (0, .ref h0), (1, .int p1)]) hx hb dX12_four_30 hl (k := 0) rfl (by decide) (by decide) rfl (fun ls hl => ?_)
          refine lv_goto (tgt := 3) hx hb dX12_four_33 (by decide) ?_
          refine lv_iload_n hx hb dX12_four_3 rfl (lv_at hl 0 rfl) ?_
          refine lv_if_lt (tgt := 36) hx hb dX12_four_4 (by decide) (fun cz21 => ?_) (fun cz21 => ?_)
          · skip
            have hP9 := hP.sub (ws' := [(h0, .inr (12, [.int 0, .ref m1, .ref m2, .ref m3, .ref m4, .ref m5, .int 20, .int 0, .int 0, .int 0, .int 0, .long 0, .int 0, .int 0, .int 0, .int (-1), .ref m16, .ref m17, .ref m18, .ref m19, .ref m20, .ref m21, .ref m22, .ref m23, .int 0, .int 0, .int 0, .ref m27, .ref m28, .ref m29, .ref m30, .ref m31, .ref m32, .ref m33, .ref m34, .ref m35, .ref m36, .ref m37, .ref m38, .ref m39, .ref m40, .ref m41, .ref m42, .int 0, .int 0, .int 0, .ref m46, .int 0, .int 0, .int 0, .int 0, .int 0, .int 0, .ref m53, .int 0, .int 0, .int 0, .ref m57, .ref m58])), (m5, .inl (k5, 700, .inl fz19))]) [0, 1] rfl
            have hD9 := hD.sub (ws' := [(h0, .inr (12, [.int 0, .ref m1, .ref m2, .ref m3, .ref m4, .ref m5, .int 20, .int 0, .int 0, .int 0, .int 0, .long 0, .int 0, .int 0, .int 0, .int (-1), .ref m16, .ref m17, .ref m18, .ref m19, .ref m20, .ref m21, .ref m22, .ref m23, .int 0, .int 0, .int 0, .ref m27, .ref m28, .ref m29, .ref m30, .ref m31, .ref m32, .ref m33, .ref m34, .ref m35, .ref m36, .ref m37, .ref m38, .ref m39, .ref m40, .ref m41, .ref m42, .int 0, .int 0, .int 0, .ref m46, .int 0, .int 0, .int 0, .int 0, .int 0, .int 0, .ref m53, .int 0, .int 0, .int 0, .ref m57, .ref m58])), (m5, .inl (k5, 700, .inl fz19))]) [0, 1] (by decide) rfl
            have hK9 := hK.sub (tys' := [(k5, .byte)]) [0] rfl
            exact W.vret hx hb hr (fun t ht hW => ⟨⟨(), rfl, trivial, fz19, by rw [ht]; exact hP9, va_K.moved hW.alike hK9, hD9⟩, hS.F ht⟩) hS.2.2 dX12_four_36
          · skip
            exact absurd cz21 (by decide)
def wk_f_X12_feed : List Cond := .code yX12_feed cX12_feed 6 (some .int) :: ([.fieldLink RX12 116 "SagMemoryModel" "thrown" "I", .fieldLink RX12 133 "SagMemoryModel" "taped" "I", .methodLink RX12 136 yX12_four, .instanceMethod yX12_four, .selects RX12 yX12_four yX12_four, .initialized RX12] ++ (wsX120 ++ (wk_f_X12_four_0 ++ (wk_f_X12_four_4 ++ (wk_f_X12_four_8 ++ (wk_f_X12_four_12 ++ (wk_f_X12_four_16 ++ [])))))))
theorem wkg_f_X12_feed : wk_f_X12_feed.all goodWord = true := by decide +kernel
set_option maxHeartbeats 4000000 in
set_option maxRecDepth 100000 in
theorem f_X12_feed (l : Launch) (dC : Nat → ClassId) (dI : Nat → Nat → Nat) (sz : Nat) (h0 : Nat) (m1 : Nat) (m2 : Nat) (m3 : Nat) (m4 : Nat) (m5 : Nat) (m16 : Nat) (m17 : Nat) (m18 : Nat) (m19 : Nat) (m20 : Nat) (m21 : Nat) (m22 : Nat) (m23 : Nat) (m27 : Nat) (m28 : Nat) (m29 : Nat) (m30 : Nat) (m31 : Nat) (m32 : Nat) (m33 : Nat) (m34 : Nat) (m35 : Nat) (m36 : Nat) (m37 : Nat) (m38 : Nat) (m39 : Nat) (m40 : Nat) (m41 : Nat) (m42 : Nat) (m46 : Nat) (m53 : Nat) (m57 : Nat) (m58 : Nat) (k5 : ClassId) (p1 : Int32) (p2 : Int32) (p3 : Int32) (p4 : Int32) (p5 : Int32) : Met l yX12_feed wk_f_X12_feed ({ frames := 1, cells := 0, slots := 0, locals := 22 }) (va_Pc [.ref h0, .int p1, .int p2, .int p3, .int p4, .int p5] (fun U => U.heap.size = sz ∧ va_P (dC, dI) vwCl [(h0, .inr (12, [.int 0, .ref m1, .ref m2, .ref m3, .ref m4, .ref m5, .int 0, .int 0, .int 0, .int 0, .int 0, .long 0, .int 0, .int 0, .int 0, .int (-1), .ref m16, .ref m17, .ref m18, .ref m19, .ref m20, .ref m21, .ref m22, .ref m23, .int 0, .int 0, .int 0, .ref m27, .ref m28, .ref m29, .ref m30, .ref m31, .ref m32, .ref m33, .ref m34, .ref m35, .ref m36, .ref m37, .ref m38, .ref m39, .ref m40, .ref m41, .ref m42, .int 0, .int 0, .int 0, .ref m46, .int 0, .int 0, .int 0, .int 0, .int 0, .int 0, .ref m53, .int 0, .int 0, .int 0, .ref m57, .ref m58])), (m5, .inl (k5, 700, .inl (fun _ => 0)))] U.heap ∧ va_K (dC, dI) vwCl [(k5, .byte)] U ∧ va_D (fun _ => True) [(h0, .inr (12, [.int 0, .ref m1, .ref m2, .ref m3, .ref m4, .ref m5, .int 0, .int 0, .int 0, .int 0, .int 0, .long 0, .int 0, .int 0, .int 0, .int (-1), .ref m16, .ref m17, .ref m18, .ref m19, .ref m20, .ref m21, .ref m22, .ref m23, .int 0, .int 0, .int 0, .ref m27, .ref m28, .ref m29, .ref m30, .ref m31, .ref m32, .ref m33, .ref m34, .ref m35, .ref m36, .ref m37, .ref m38, .ref m39, .ref m40, .ref m41, .ref m42, .int 0, .int 0, .int 0, .ref m46, .int 0, .int 0, .int 0, .int 0, .int 0, .int 0, .ref m53, .int 0, .int 0, .int 0, .ref m57, .ref m58])), (m5, .inl (k5, 700, .inl (fun _ => 0)))])) (va_Qi (fun (r : Int32) (_ : Unit) => r = 20) (fun (_ : Unit) (_ : State) => True) (va_A [(h0, .inr (12, [.int 0, .ref m1, .ref m2, .ref m3, .ref m4, .ref m5, .int 0, .int 0, .int 0, .int 0, .int 0, .long 0, .int 0, .int 0, .int 0, .int (-1), .ref m16, .ref m17, .ref m18, .ref m19, .ref m20, .ref m21, .ref m22, .ref m23, .int 0, .int 0, .int 0, .ref m27, .ref m28, .ref m29, .ref m30, .ref m31, .ref m32, .ref m33, .ref m34, .ref m35, .ref m36, .ref m37, .ref m38, .ref m39, .ref m40, .ref m41, .ref m42, .int 0, .int 0, .int 0, .ref m46, .int 0, .int 0, .int 0, .int 0, .int 0, .int 0, .ref m53, .int 0, .int 0, .int 0, .ref m57, .ref m58])), (m5, .inl (k5, 700, .inl (fun _ => 0)))] sz)) 0 0 (va_A [(h0, .inr (12, [.int 0, .ref m1, .ref m2, .ref m3, .ref m4, .ref m5, .int 0, .int 0, .int 0, .int 0, .int 0, .long 0, .int 0, .int 0, .int 0, .int (-1), .ref m16, .ref m17, .ref m18, .ref m19, .ref m20, .ref m21, .ref m22, .ref m23, .int 0, .int 0, .int 0, .ref m27, .ref m28, .ref m29, .ref m30, .ref m31, .ref m32, .ref m33, .ref m34, .ref m35, .ref m36, .ref m37, .ref m38, .ref m39, .ref m40, .ref m41, .ref m42, .int 0, .int 0, .int 0, .ref m46, .int 0, .int 0, .int 0, .int 0, .int 0, .int 0, .ref m53, .int 0, .int 0, .int 0, .ref m57, .ref m58])), (m5, .inl (k5, 700, .inl (fun _ => 0)))] sz) := by
  refine Met.ofW (cc := cX12_feed) (maxL := 6) (ret := (some .int)) (by decide) rfl ?_
  intro p e s m args below meth c s₁ B hml hv
  obtain ⟨rfl, hsz, hP, hK, hD0⟩ := hv
  have hx := B.exec
  have hb := B.bytes
  have hr := B.returns
  have hts := atoms_spec (ws := wk_f_X12_feed) B.pre
  have hown : s.vm.findClass RX12 = some m.cls := findClass_of_methodNamed B.named
  have hlocks := B.notSynchronized
  subst hsz
  have hD := hD0.self (sz := s.heap.size)
  generalize hAe : va_A [(h0, .inr (12, [.int 0, .ref m1, .ref m2, .ref m3, .ref m4, .ref m5, .int 0, .int 0, .int 0, .int 0, .int 0, .long 0, .int 0, .int 0, .int 0, .int (-1), .ref m16, .ref m17, .ref m18, .ref m19, .ref m20, .ref m21, .ref m22, .ref m23, .int 0, .int 0, .int 0, .ref m27, .ref m28, .ref m29, .ref m30, .ref m31, .ref m32, .ref m33, .ref m34, .ref m35, .ref m36, .ref m37, .ref m38, .ref m39, .ref m40, .ref m41, .ref m42, .int 0, .int 0, .int 0, .ref m46, .int 0, .int 0, .int 0, .int 0, .int 0, .int 0, .ref m53, .int 0, .int 0, .int 0, .ref m57, .ref m58])), (m5, .inl (k5, 700, .inl (fun _ => 0)))] s.heap.size = A at hD ⊢
  have hA : ∀ q : Nat, s.heap.size ≤ q → A q := fun q h => by rw [← hAe]; exact Or.inr h
  have hS : va_S A s.heap s.heap [] := va_S.rf
  have hP : va_P (dC, dI) vwCl [(h0, .inr (12, [.int 0, .ref m1, .ref m2, .ref m3, .ref m4, .ref m5, .int 0, .int 0, .int 0, .int 0, .int 0, .long 0, .int 0, .int 0, .int 0, .int (-1), .ref m16, .ref m17, .ref m18, .ref m19, .ref m20, .ref m21, .ref m22, .ref m23, .int 0, .int 0, .int 0, .ref m27, .ref m28, .ref m29, .ref m30, .ref m31, .ref m32, .ref m33, .ref m34, .ref m35, .ref m36, .ref m37, .ref m38, .ref m39, .ref m40, .ref m41, .ref m42, .int 0, .int 0, .int 0, .ref m46, .int 0, .int 0, .int 0, .int 0, .int 0, .int 0, .ref m53, .int 0, .int 0, .int 0, .ref m57, .ref m58])), (m5, .inl (k5, 700, .inl (fun _ => 0)))] s.heap := hP
  have hl := lv_entry ([.ref h0, .int p1, .int p2, .int p3, .int p4, .int p5]) (n := 6) (Nat.le_of_ble_eq_true rfl)
  rw [lg_entry_eq]
  generalize (lg_sl ([.ref h0, .int p1, .int p2, .int p3, .int p4, .int p5]) ++ List.replicate (6 - (lg_sl ([.ref h0, .int p1, .int p2, .int p3, .int p4, .int p5])).length) Slot.unset).toArray = ls at hl ⊢
  have hl : lv_has ls 6 [(0, .ref h0), (1, .int p1), (2, .int p2), (3, .int p3), (4, .int p4), (5, .int p5)] := hl
  refine lv_aload_n hx hb dX12_feed_0 rfl (lv_at hl 0 rfl) ?_
  refine lv_iconst (v := 0) hx hb dX12_feed_1 (by decide) ?_
  refine va_put (D := (dC, dI)) (ci := 12) (v := .int 0) (ty := .int) (C := RX12) (T := TX12) (N := 59) hx hb hts (fun w h => List.mem_cons_of_mem _ (List.mem_append_right _ (List.mem_append_left _ h))) tyX12 tyX12_ok nmX12 hown hK hP hD hS 0 rfl rfl 0 (by decide) (hts (.fieldLink RX12 116 "SagMemoryModel" "thrown" "I") (wl_mem 0 rfl)) (fun _ h9 => h9) rfl (by decide +kernel) rfl rfl (Nat.le_of_ble_eq_true rfl) dX12_feed_2 (fun H locs hP hD hS => ?_)
  have hP : va_P (dC, dI) vwCl [(h0, .inr (12, [.int 0, .ref m1, .ref m2, .ref m3, .ref m4, .ref m5, .int 0, .int 0, .int 0, .int 0, .int 0, .long 0, .int 0, .int 0, .int 0, .int (-1), .ref m16, .ref m17, .ref m18, .ref m19, .ref m20, .ref m21, .ref m22, .ref m23, .int 0, .int 0, .int 0, .ref m27, .ref m28, .ref m29, .ref m30, .ref m31, .ref m32, .ref m33, .ref m34, .ref m35, .ref m36, .ref m37, .ref m38, .ref m39, .ref m40, .ref m41, .ref m42, .int 0, .int 0, .int 0, .ref m46, .int 0, .int 0, .int 0, .int 0, .int 0, .int 0, .ref m53, .int 0, .int 0, .int 0, .ref m57, .ref m58])), (m5, .inl (k5, 700, .inl (fun _ => 0)))] H := hP
  have hD : va_D A [(h0, .inr (12, [.int 0, .ref m1, .ref m2, .ref m3, .ref m4, .ref m5, .int 0, .int 0, .int 0, .int 0, .int 0, .long 0, .int 0, .int 0, .int 0, .int (-1), .ref m16, .ref m17, .ref m18, .ref m19, .ref m20, .ref m21, .ref m22, .ref m23, .int 0, .int 0, .int 0, .ref m27, .ref m28, .ref m29, .ref m30, .ref m31, .ref m32, .ref m33, .ref m34, .ref m35, .ref m36, .ref m37, .ref m38, .ref m39, .ref m40, .ref m41, .ref m42, .int 0, .int 0, .int 0, .ref m46, .int 0, .int 0, .int 0, .int 0, .int 0, .int 0, .ref m53, .int 0, .int 0, .int 0, .ref m57, .ref m58])), (m5, .inl (k5, 700, .inl (fun _ => 0)))] := hD
  refine lv_aload_n hx hb dX12_feed_5 rfl (lv_at hl 0 rfl) ?_
  refine va_get (D := (dC, dI)) (ci := 12) (v := .int 0) (C := RX12) (T := TX12) (N := 59) hx hb hts (fun w h => List.mem_cons_of_mem _ (List.mem_append_right _ (List.mem_append_left _ h))) hown hK hP 0 rfl rfl 6 (by decide) (hts (.fieldLink RX12 133 "SagMemoryModel" "taped" "I") (wl_mem 1 rfl)) (fun _ h9 => h9) rfl dX12_feed_6 ?_
  refine lv_bipush (v := 20) hx hb dX12_feed_9 (by decide) ?_
  refine lv_iadd hx hb dX12_feed_11 ?_
  refine lv_topi (fun xz1 exz1 => ?_)
  obtain rfl : xz1 = 20 := exz1.trans (by decide)
  refine lv_sipush (v := 700) hx hb dX12_feed_12 (by decide) ?_
  refine lv_icmp_le (tgt := 20) hx hb dX12_feed_15 (by decide) (fun cz2 => ?_) (fun cz2 => ?_)
  · skip
    refine lv_aload_n hx hb dX12_feed_20 rfl (lv_at hl 0 rfl) ?_
    refine lv_iload_n hx hb dX12_feed_21 rfl (lv_at hl 1 rfl) ?_
    have hPc := hP.sub (ws' := [(h0, .inr (12, [.int 0, .ref m1, .ref m2, .ref m3, .ref m4, .ref m5, .int 0, .int 0, .int 0, .int 0, .int 0, .long 0, .int 0, .int 0, .int 0, .int (-1), .ref m16, .ref m17, .ref m18, .ref m19, .ref m20, .ref m21, .ref m22, .ref m23, .int 0, .int 0, .int 0, .ref m27, .ref m28, .ref m29, .ref m30, .ref m31, .ref m32, .ref m33, .ref m34, .ref m35, .ref m36, .ref m37, .ref m38, .ref m39, .ref m40, .ref m41, .ref m42, .int 0, .int 0, .int 0, .ref m46, .int 0, .int 0, .int 0, .int 0, .int 0, .int 0, .ref m53, .int 0, .int 0, .int 0, .ref m57, .ref m58])), (m5, .inl (k5, 700, .inl (fun _ => 0)))]) [0, 1] rfl
    have hKc := hK.sub (tys' := [(k5, .byte)]) [0] rfl
    have hDc := hD.sub (ws' := [(h0, .inr (12, [.int 0, .ref m1, .ref m2, .ref m3, .ref m4, .ref m5, .int 0, .int 0, .int 0, .int 0, .int 0, .long 0, .int 0, .int 0, .int 0, .int (-1), .ref m16, .ref m17, .ref m18, .ref m19, .ref m20, .ref m21, .ref m22, .ref m23, .int 0, .int 0, .int 0, .ref m27, .ref m28, .ref m29, .ref m30, .ref m31, .ref m32, .ref m33, .ref m34, .ref m35, .ref m36, .ref m37, .ref m38, .ref m39, .ref m40, .ref m41, .ref m42, .int 0, .int 0, .int 0, .ref m46, .int 0, .int 0, .int 0, .int 0, .int 0, .int 0, .ref m53, .int 0, .int 0, .int 0, .ref m57, .ref m58])), (m5, .inl (k5, 700, .inl (fun _ => 0)))]) [0, 1] (by decide) rfl
    have hFc := va_free (wc := [(h0, .inr (12, [.int 0, .ref m1, .ref m2, .ref m3, .ref m4, .ref m5, .int 0, .int 0, .int 0, .int 0, .int 0, .long 0, .int 0, .int 0, .int 0, .int (-1), .ref m16, .ref m17, .ref m18, .ref m19, .ref m20, .ref m21, .ref m22, .ref m23, .int 0, .int 0, .int 0, .ref m27, .ref m28, .ref m29, .ref m30, .ref m31, .ref m32, .ref m33, .ref m34, .ref m35, .ref m36, .ref m37, .ref m38, .ref m39, .ref m40, .ref m41, .ref m42, .int 0, .int 0, .int 0, .ref m46, .int 0, .int 0, .int 0, .int 0, .int 0, .int 0, .ref m53, .int 0, .int 0, .int 0, .ref m57, .ref m58])), (m5, .inl (k5, 700, .inl (fun _ => 0)))]) hD hS hA [0, 1] rfl
    refine va_callv (va_runV (As := [.int p1]) (rest := []) ⟨hx, hb, hml, hown, hts⟩ (f_X12_four_0 l dC dI H.size h0 m1 m2 m3 m4 m5 m16 m17 m18 m19 m20 m21 m22 m23 m27 m28 m29 m30 m31 m32 m33 m34 m35 m36 m37 m38 m39 m40 m41 m42 m46 m53 m57 m58 k5 ((fun _ => 0)) p1) (cwV 1 hts (gk_V (wl_mem 2 rfl) (wl_mem 3 rfl) (wl_mem 4 rfl) (wl_mem 5 rfl) (fun w h => List.mem_cons_of_mem _ (List.mem_append_right _ (List.mem_append_right _ (List.mem_append_left _ h)))) wkg_f_X12_four_0) rfl rfl rfl (by decide +kernel) ⟨Nat.le_of_ble_eq_true rfl, Nat.le_of_ble_eq_true rfl⟩) ⟨fun a U g mk q => by obtain ⟨q0, q1, qP, qK, qD⟩ := q; exact ⟨q0, q1, qP, va_K.moved (u := U) (U := U.calling g mk a) (Vm.Alike.refl U.vm) qK, qD⟩, va_recv hKc hPc (ci := 12) (q0 := 0) rfl rfl, fun U hU hW => ⟨rfl, by rw [hU], by rw [hU]; exact hPc, va_K.moved hW.alike hKc, hDc.weaken (fun _ _ _ _ => trivial)⟩⟩ rfl rfl hl.1 rfl (lv_room (Nat.le_of_ble_eq_true rfl)) dX12_feed_22 ⟨Nat.le_of_ble_eq_true rfl, Nat.le_of_ble_eq_true rfl⟩) hS (fun q _ h => hFc q h) hFc (fun u t H1 locs ht hvm hz3 hB hz1 hk1 hS => ?_)
    obtain ⟨fz5, hP1, hK1, hD1⟩ := hB
    rw [ht] at hP1
    have hK1 := va_K.moved hvm.symm hK1
    obtain ⟨hP, hD⟩ := va_join (wr := []) (w1 := [(h0, .inr (12, [.int 0, .ref m1, .ref m2, .ref m3, .ref m4, .ref m5, .int 4, .int 0, .int 0, .int 0, .int 0, .long 0, .int 0, .int 0, .int 0, .int (-1), .ref m16, .ref m17, .ref m18, .ref m19, .ref m20, .ref m21, .ref m22, .ref m23, .int 0, .int 0, .int 0, .ref m27, .ref m28, .ref m29, .ref m30, .ref m31, .ref m32, .ref m33, .ref m34, .ref m35, .ref m36, .ref m37, .ref m38, .ref m39, .ref m40, .ref m41, .ref m42, .int 0, .int 0, .int 0, .ref m46, .int 0, .int 0, .int 0, .int 0, .int 0, .int 0, .ref m53, .int 0, .int 0, .int 0, .ref m57, .ref m58])), (m5, .inl (k5, 700, .inl fz5))]) hP hD [0, 1] [] rfl rfl (by decide) (by decide) hk1 hFc hP1 hD1
    have hK := (hK.sub (tys' := []) [] rfl).app hK1
    generalize H1 = H at hP hS ⊢
    have hK : va_K (dC, dI) vwCl [(k5, .byte)] s := hK
    have hP : va_P (dC, dI) vwCl [(h0, .inr (12, [.int 0, .ref m1, .ref m2, .ref m3, .ref m4, .ref m5, .int 4, .int 0, .int 0, .int 0, .int 0, .long 0, .int 0, .int 0, .int 0, .int (-1), .ref m16, .ref m17, .ref m18, .ref m19, .ref m20, .ref m21, .ref m22, .ref m23, .int 0, .int 0, .int 0, .ref m27, .ref m28, .ref m29, .ref m30, .ref m31, .ref m32, .ref m33, .ref m34, .ref m35, .ref m36, .ref m37, .ref m38, .ref m39, .ref m40, .ref m41, .ref m42, .int 0, .int 0, .int 0, .ref m46, .int 0, .int 0, .int 0, .int 0, .int 0, .int 0, .ref m53, .int 0, .int 0, .int 0, .ref m57, .ref m58])), (m5, .inl (k5, 700, .inl fz5))] H := hP
    have hD : va_D A [(h0, .inr (12, [.int 0, .ref m1, .ref m2, .ref m3, .ref m4, .ref m5, .int 4, .int 0, .int 0, .int 0, .int 0, .long 0, .int 0, .int 0, .int 0, .int (-1), .ref m16, .ref m17, .ref m18, .ref m19, .ref m20, .ref m21, .ref m22, .ref m23, .int 0, .int 0, .int 0, .ref m27, .ref m28, .ref m29, .ref m30, .ref m31, .ref m32, .ref m33, .ref m34, .ref m35, .ref m36, .ref m37, .ref m38, .ref m39, .ref m40, .ref m41, .ref m42, .int 0, .int 0, .int 0, .ref m46, .int 0, .int 0, .int 0, .int 0, .int 0, .int 0, .ref m53, .int 0, .int 0, .int 0, .ref m57, .ref m58])), (m5, .inl (k5, 700, .inl fz5))] := hD
    refine W.widen (k := 0) (n := 0) (Nat.le_of_ble_eq_true rfl) (Nat.le_of_ble_eq_true rfl) ?_
    refine lv_aload_n hx hb dX12_feed_25 rfl (lv_at hl 0 rfl) ?_
    refine lv_iload_n hx hb dX12_feed_26 rfl (lv_at hl 2 rfl) ?_
    have hPc := hP.sub (ws' := [(h0, .inr (12, [.int 0, .ref m1, .ref m2, .ref m3, .ref m4, .ref m5, .int 4, .int 0, .int 0, .int 0, .int 0, .long 0, .int 0, .int 0, .int 0, .int (-1), .ref m16, .ref m17, .ref m18, .ref m19, .ref m20, .ref m21, .ref m22, .ref m23, .int 0, .int 0, .int 0, .ref m27, .ref m28, .ref m29, .ref m30, .ref m31, .ref m32, .ref m33, .ref m34, .ref m35, .ref m36, .ref m37, .ref m38, .ref m39, .ref m40, .ref m41, .ref m42, .int 0, .int 0, .int 0, .ref m46, .int 0, .int 0, .int 0, .int 0, .int 0, .int 0, .ref m53, .int 0, .int 0, .int 0, .ref m57, .ref m58])), (m5, .inl (k5, 700, .inl fz5))]) [0, 1] rfl
    have hKc := hK.sub (tys' := [(k5, .byte)]) [0] rfl
    have hDc := hD.sub (ws' := [(h0, .inr (12, [.int 0, .ref m1, .ref m2, .ref m3, .ref m4, .ref m5, .int 4, .int 0, .int 0, .int 0, .int 0, .long 0, .int 0, .int 0, .int 0, .int (-1), .ref m16, .ref m17, .ref m18, .ref m19, .ref m20, .ref m21, .ref m22, .ref m23, .int 0, .int 0, .int 0, .ref m27, .ref m28, .ref m29, .ref m30, .ref m31, .ref m32, .ref m33, .ref m34, .ref m35, .ref m36, .ref m37, .ref m38, .ref m39, .ref m40, .ref m41, .ref m42, .int 0, .int 0, .int 0, .ref m46, .int 0, .int 0, .int 0, .int 0, .int 0, .int 0, .ref m53, .int 0, .int 0, .int 0, .ref m57, .ref m58])), (m5, .inl (k5, 700, .inl fz5))]) [0, 1] (by decide) rfl
    have hFc := va_free (wc := [(h0, .inr (12, [.int 0, .ref m1, .ref m2, .ref m3, .ref m4, .ref m5, .int 4, .int 0, .int 0, .int 0, .int 0, .long 0, .int 0, .int 0, .int 0, .int (-1), .ref m16, .ref m17, .ref m18, .ref m19, .ref m20, .ref m21, .ref m22, .ref m23, .int 0, .int 0, .int 0, .ref m27, .ref m28, .ref m29, .ref m30, .ref m31, .ref m32, .ref m33, .ref m34, .ref m35, .ref m36, .ref m37, .ref m38, .ref m39, .ref m40, .ref m41, .ref m42, .int 0, .int 0, .int 0, .ref m46, .int 0, .int 0, .int 0, .int 0, .int 0, .int 0, .ref m53, .int 0, .int 0, .int 0, .ref m57, .ref m58])), (m5, .inl (k5, 700, .inl fz5))]) hD hS hA [0, 1] rfl
    refine va_callv (va_runV (As := [.int p2]) (rest := []) ⟨hx, hb, hml, hown, hts⟩ (f_X12_four_4 l dC dI H.size h0 m1 m2 m3 m4 m5 m16 m17 m18 m19 m20 m21 m22 m23 m27 m28 m29 m30 m31 m32 m33 m34 m35 m36 m37 m38 m39 m40 m41 m42 m46 m53 m57 m58 k5 fz5 p2) (cwV 1 hts (gk_V (wl_mem 2 rfl) (wl_mem 3 rfl) (wl_mem 4 rfl) (wl_mem 5 rfl) (fun w h => List.mem_cons_of_mem _ (List.mem_append_right _ (List.mem_append_right _ (List.mem_append_right _ (List.mem_append_left _ h))))) wkg_f_X12_four_4) rfl rfl rfl (by decide +kernel) ⟨Nat.le_of_ble_eq_true rfl, Nat.le_of_ble_eq_true rfl⟩) ⟨fun a U g mk q => by obtain ⟨q0, q1, qP, qK, qD⟩ := q; exact ⟨q0, q1, qP, va_K.moved (u := U) (U := U.calling g mk a) (Vm.Alike.refl U.vm) qK, qD⟩, va_recv hKc hPc (ci := 12) (q0 := 0) rfl rfl, fun U hU hW => ⟨rfl, by rw [hU], by rw [hU]; exact hPc, va_K.moved hW.alike hKc, hDc.weaken (fun _ _ _ _ => trivial)⟩⟩ rfl rfl hl.1 rfl (lv_room (Nat.le_of_ble_eq_true rfl)) dX12_feed_27 ⟨Nat.le_of_ble_eq_true rfl, Nat.le_of_ble_eq_true rfl⟩) hS (fun q _ h => hFc q h) hFc (fun u t H1 locs ht hvm hz6 hB hz1 hk1 hS => ?_)
    obtain ⟨fz8, hP1, hK1, hD1⟩ := hB
    rw [ht] at hP1
    have hK1 := va_K.moved hvm.symm hK1
    obtain ⟨hP, hD⟩ := va_join (wr := []) (w1 := [(h0, .inr (12, [.int 0, .ref m1, .ref m2, .ref m3, .ref m4, .ref m5, .int 8, .int 0, .int 0, .int 0, .int 0, .long 0, .int 0, .int 0, .int 0, .int (-1), .ref m16, .ref m17, .ref m18, .ref m19, .ref m20, .ref m21, .ref m22, .ref m23, .int 0, .int 0, .int 0, .ref m27, .ref m28, .ref m29, .ref m30, .ref m31, .ref m32, .ref m33, .ref m34, .ref m35, .ref m36, .ref m37, .ref m38, .ref m39, .ref m40, .ref m41, .ref m42, .int 0, .int 0, .int 0, .ref m46, .int 0, .int 0, .int 0, .int 0, .int 0, .int 0, .ref m53, .int 0, .int 0, .int 0, .ref m57, .ref m58])), (m5, .inl (k5, 700, .inl fz8))]) hP hD [0, 1] [] rfl rfl (by decide) (by decide) hk1 hFc hP1 hD1
    have hK := (hK.sub (tys' := []) [] rfl).app hK1
    generalize H1 = H at hP hS ⊢
    have hK : va_K (dC, dI) vwCl [(k5, .byte)] s := hK
    have hP : va_P (dC, dI) vwCl [(h0, .inr (12, [.int 0, .ref m1, .ref m2, .ref m3, .ref m4, .ref m5, .int 8, .int 0, .int 0, .int 0, .int 0, .long 0, .int 0, .int 0, .int 0, .int (-1), .ref m16, .ref m17, .ref m18, .ref m19, .ref m20, .ref m21, .ref m22, .ref m23, .int 0, .int 0, .int 0, .ref m27, .ref m28, .ref m29, .ref m30, .ref m31, .ref m32, .ref m33, .ref m34, .ref m35, .ref m36, .ref m37, .ref m38, .ref m39, .ref m40, .ref m41, .ref m42, .int 0, .int 0, .int 0, .ref m46, .int 0, .int 0, .int 0, .int 0, .int 0, .int 0, .ref m53, .int 0, .int 0, .int 0, .ref m57, .ref m58])), (m5, .inl (k5, 700, .inl fz8))] H := hP
    have hD : va_D A [(h0, .inr (12, [.int 0, .ref m1, .ref m2, .ref m3, .ref m4, .ref m5, .int 8, .int 0, .int 0, .int 0, .int 0, .long 0, .int 0, .int 0, .int 0, .int (-1), .ref m16, .ref m17, .ref m18, .ref m19, .ref m20, .ref m21, .ref m22, .ref m23, .int 0, .int 0, .int 0, .ref m27, .ref m28, .ref m29, .ref m30, .ref m31, .ref m32, .ref m33, .ref m34, .ref m35, .ref m36, .ref m37, .ref m38, .ref m39, .ref m40, .ref m41, .ref m42, .int 0, .int 0, .int 0, .ref m46, .int 0, .int 0, .int 0, .int 0, .int 0, .int 0, .ref m53, .int 0, .int 0, .int 0, .ref m57, .ref m58])), (m5, .inl (k5, 700, .inl fz8))] := hD
    refine W.widen (k := 0) (n := 0) (Nat.le_of_ble_eq_true rfl) (Nat.le_of_ble_eq_true rfl) ?_
    refine lv_aload_n hx hb dX12_feed_30 rfl (lv_at hl 0 rfl) ?_
    refine lv_iload_n hx hb dX12_feed_31 rfl (lv_at hl 3 rfl) ?_
    have hPc := hP.sub (ws' := [(h0, .inr (12, [.int 0, .ref m1, .ref m2, .ref m3, .ref m4, .ref m5, .int 8, .int 0, .int 0, .int 0, .int 0, .long 0, .int 0, .int 0, .int 0, .int (-1), .ref m16, .ref m17, .ref m18, .ref m19, .ref m20, .ref m21, .ref m22, .ref m23, .int 0, .int 0, .int 0, .ref m27, .ref m28, .ref m29, .ref m30, .ref m31, .ref m32, .ref m33, .ref m34, .ref m35, .ref m36, .ref m37, .ref m38, .ref m39, .ref m40, .ref m41, .ref m42, .int 0, .int 0, .int 0, .ref m46, .int 0, .int 0, .int 0, .int 0, .int 0, .int 0, .ref m53, .int 0, .int 0, .int 0, .ref m57, .ref m58])), (m5, .inl (k5, 700, .inl fz8))]) [0, 1] rfl
    have hKc := hK.sub (tys' := [(k5, .byte)]) [0] rfl
    have hDc := hD.sub (ws' := [(h0, .inr (12, [.int 0, .ref m1, .ref m2, .ref m3, .ref m4, .ref m5, .int 8, .int 0, .int 0, .int 0, .int 0, .long 0, .int 0, .int 0, .int 0, .int (-1), .ref m16, .ref m17, .ref m18, .ref m19, .ref m20, .ref m21, .ref m22, .ref m23, .int 0, .int 0, .int 0, .ref m27, .ref m28, .ref m29, .ref m30, .ref m31, .ref m32, .ref m33, .ref m34, .ref m35, .ref m36, .ref m37, .ref m38, .ref m39, .ref m40, .ref m41, .ref m42, .int 0, .int 0, .int 0, .ref m46, .int 0, .int 0, .int 0, .int 0, .int 0, .int 0, .ref m53, .int 0, .int 0, .int 0, .ref m57, .ref m58])), (m5, .inl (k5, 700, .inl fz8))]) [0, 1] (by decide) rfl
    have hFc := va_free (wc := [(h0, .inr (12, [.int 0, .ref m1, .ref m2, .ref m3, .ref m4, .ref m5, .int 8, .int 0, .int 0, .int 0, .int 0, .long 0, .int 0, .int 0, .int 0, .int (-1), .ref m16, .ref m17, .ref m18, .ref m19, .ref m20, .ref m21, .ref m22, .ref m23, .int 0, .int 0, .int 0, .ref m27, .ref m28, .ref m29, .ref m30, .ref m31, .ref m32, .ref m33, .ref m34, .ref m35, .ref m36, .ref m37, .ref m38, .ref m39, .ref m40, .ref m41, .ref m42, .int 0, .int 0, .int 0, .ref m46, .int 0, .int 0, .int 0, .int 0, .int 0, .int 0, .ref m53, .int 0, .int 0, .int 0, .ref m57, .ref m58])), (m5, .inl (k5, 700, .inl fz8))]) hD hS hA [0, 1] rfl
    refine va_callv (va_runV (As := [.int p3]) (rest := []) ⟨hx, hb, hml, hown, hts⟩ (f_X12_four_8 l dC dI H.size h0 m1 m2 m3 m4 m5 m16 m17 m18 m19 m20 m21 m22 m23 m27 m28 m29 m30 m31 m32 m33 m34 m35 m36 m37 m38 m39 m40 m41 m42 m46 m53 m57 m58 k5 fz8 p3) (cwV 1 hts (gk_V (wl_mem 2 rfl) (wl_mem 3 rfl) (wl_mem 4 rfl) (wl_mem 5 rfl) (fun w h => List.mem_cons_of_mem _ (List.mem_append_right _ (List.mem_append_right _ (List.mem_append_right _ (List.mem_append_right _ (List.mem_append_left _ h)))))) wkg_f_X12_four_8) rfl rfl rfl (by decide +kernel) ⟨Nat.le_of_ble_eq_true rfl, Nat.le_of_ble_eq_true rfl⟩) ⟨fun a U g mk q => by obtain ⟨q0, q1, qP, qK, qD⟩ := q; exact ⟨q0, q1, qP, va_K.moved (u := U) (U := U.calling g mk a) (Vm.Alike.refl U.vm) qK, qD⟩, va_recv hKc hPc (ci := 12) (q0 := 0) rfl rfl, fun U hU hW => ⟨rfl, by rw [hU], by rw [hU]; exact hPc, va_K.moved hW.alike hKc, hDc.weaken (fun _ _ _ _ => trivial)⟩⟩ rfl rfl hl.1 rfl (lv_room (Nat.le_of_ble_eq_true rfl)) dX12_feed_32 ⟨Nat.le_of_ble_eq_true rfl, Nat.le_of_ble_eq_true rfl⟩) hS (fun q _ h => hFc q h) hFc (fun u t H1 locs ht hvm hz9 hB hz1 hk1 hS => ?_)
    obtain ⟨fz11, hP1, hK1, hD1⟩ := hB
    rw [ht] at hP1
    have hK1 := va_K.moved hvm.symm hK1
    obtain ⟨hP, hD⟩ := va_join (wr := []) (w1 := [(h0, .inr (12, [.int 0, .ref m1, .ref m2, .ref m3, .ref m4, .ref m5, .int 12, .int 0, .int 0, .int 0, .int 0, .long 0, .int 0, .int 0, .int 0, .int (-1), .ref m16, .ref m17, .ref m18, .ref m19, .ref m20, .ref m21, .ref m22, .ref m23, .int 0, .int 0, .int 0, .ref m27, .ref m28, .ref m29, .ref m30, .ref m31, .ref m32, .ref m33, .ref m34, .ref m35, .ref m36, .ref m37, .ref m38, .ref m39, .ref m40, .ref m41, .ref m42, .int 0, .int 0, .int 0, .ref m46, .int 0, .int 0, .int 0, .int 0, .int 0, .int 0, .ref m53, .int 0, .int 0, .int 0, .ref m57, .ref m58])), (m5, .inl (k5, 700, .inl fz11))]) hP hD [0, 1] [] rfl rfl (by decide) (by decide) hk1 hFc hP1 hD1
    have hK := (hK.sub (tys' := []) [] rfl).app hK1
    generalize H1 = H at hP hS ⊢
    have hK : va_K (dC, dI) vwCl [(k5, .byte)] s := hK
    have hP : va_P (dC, dI) vwCl [(h0, .inr (12, [.int 0, .ref m1, .ref m2, .ref m3, .ref m4, .ref m5, .int 12, .int 0, .int 0, .int 0, .int 0, .long 0, .int 0, .int 0, .int 0, .int (-1), .ref m16, .ref m17, .ref m18, .ref m19, .ref m20, .ref m21, .ref m22, .ref m23, .int 0, .int 0, .int 0, .ref m27, .ref m28, .ref m29, .ref m30, .ref m31, .ref m32, .ref m33, .ref m34, .ref m35, .ref m36, .ref m37, .ref m38, .ref m39, .ref m40, .ref m41, .ref m42, .int 0, .int 0, .int 0, .ref m46, .int 0, .int 0, .int 0, .int 0, .int 0, .int 0, .ref m53, .int 0, .int 0, .int 0, .ref m57, .ref m58])), (m5, .inl (k5, 700, .inl fz11))] H := hP
    have hD : va_D A [(h0, .inr (12, [.int 0, .ref m1, .ref m2, .ref m3, .ref m4, .ref m5, .int 12, .int 0, .int 0, .int 0, .int 0, .long 0, .int 0, .int 0, .int 0, .int (-1), .ref m16, .ref m17, .ref m18, .ref m19, .ref m20, .ref m21, .ref m22, .ref m23, .int 0, .int 0, .int 0, .ref m27, .ref m28, .ref m29, .ref m30, .ref m31, .ref m32, .ref m33, .ref m34, .ref m35, .ref m36, .ref m37, .ref m38, .ref m39, .ref m40, .ref m41, .ref m42, .int 0, .int 0, .int 0, .ref m46, .int 0, .int 0, .int 0, .int 0, .int 0, .int 0, .ref m53, .int 0, .int 0, .int 0, .ref m57, .ref m58])), (m5, .inl (k5, 700, .inl fz11))] := hD
    refine W.widen (k := 0) (n := 0) (Nat.le_of_ble_eq_true rfl) (Nat.le_of_ble_eq_true rfl) ?_
    refine lv_aload_n hx hb dX12_feed_35 rfl (lv_at hl 0 rfl) ?_
    refine lv_iload hx hb dX12_feed_36 (lv_at hl 4 rfl) ?_
    have hPc := hP.sub (ws' := [(h0, .inr (12, [.int 0, .ref m1, .ref m2, .ref m3, .ref m4, .ref m5, .int 12, .int 0, .int 0, .int 0, .int 0, .long 0, .int 0, .int 0, .int 0, .int (-1), .ref m16, .ref m17, .ref m18, .ref m19, .ref m20, .ref m21, .ref m22, .ref m23, .int 0, .int 0, .int 0, .ref m27, .ref m28, .ref m29, .ref m30, .ref m31, .ref m32, .ref m33, .ref m34, .ref m35, .ref m36, .ref m37, .ref m38, .ref m39, .ref m40, .ref m41, .ref m42, .int 0, .int 0, .int 0, .ref m46, .int 0, .int 0, .int 0, .int 0, .int 0, .int 0, .ref m53, .int 0, .int 0, .int 0, .ref m57, .ref m58])), (m5, .inl (k5, 700, .inl fz11))]) [0, 1] rfl
    have hKc := hK.sub (tys' := [(k5, .byte)]) [0] rfl
    have hDc := hD.sub (ws' := [(h0, .inr (12, [.int 0, .ref m1, .ref m2, .ref m3, .ref m4, .ref m5, .int 12, .int 0, .int 0, .int 0, .int 0, .long 0, .int 0, .int 0, .int 0, .int (-1), .ref m16, .ref m17, .ref m18, .ref m19, .ref m20, .ref m21, .ref m22, .ref m23, .int 0, .int 0, .int 0, .ref m27, .ref m28, .ref m29, .ref m30, .ref m31, .ref m32, .ref m33, .ref m34, .ref m35, .ref m36, .ref m37, .ref m38, .ref m39, .ref m40, .ref m41, .ref m42, .int 0, .int 0, .int 0, .ref m46, .int 0, .int 0, .int 0, .int 0, .int 0, .int 0, .ref m53, .int 0, .int 0, .int 0, .ref m57, .ref m58])), (m5, .inl (k5, 700, .inl fz11))]) [0, 1] (by decide) rfl
    have hFc := va_free (wc := [(h0, .inr (12, [.int 0, .ref m1, .ref m2, .ref m3, .ref m4, .ref m5, .int 12, .int 0, .int 0, .int 0, .int 0, .long 0, .int 0, .int 0, .int 0, .int (-1), .ref m16, .ref m17, .ref m18, .ref m19, .ref m20, .ref m21, .ref m22, .ref m23, .int 0, .int 0, .int 0, .ref m27, .ref m28, .ref m29, .ref m30, .ref m31, .ref m32, .ref m33, .ref m34, .ref m35, .ref m36, .ref m37, .ref m38, .ref m39, .ref m40, .ref m41, .ref m42, .int 0, .int 0, .int 0, .ref m46, .int 0, .int 0, .int 0, .int 0, .int 0, .int 0, .ref m53, .int 0, .int 0, .int 0, .ref m57, .ref m58])), (m5, .inl (k5, 700, .inl fz11))]) hD hS hA [0, 1] rfl
    refine va_callv (va_runV (As := [.int p4]) (rest := []) ⟨hx, hb, hml, hown, hts⟩ (f_X12_four_12 l dC dI H.size h0 m1 m2 m3 m4 m5 m16 m17 m18 m19 m20 m21 m22 m23 m27 m28 m29 m30 m31 m32 m33 m34 m35 m36 m37 m38 m39 m40 m41 m42 m46 m53 m57 m58 k5 fz11 p4) (cwV 1 hts (gk_V (wl_mem 2 rfl) (wl_mem 3 rfl) (wl_mem 4 rfl) (wl_mem 5 rfl) (fun w h => List.mem_cons_of_mem _ (List.mem_append_right _ (List.mem_append_right _ (List.mem_append_right _ (List.mem_append_right _ (List.mem_append_right _ (List.mem_append_left _ h))))))) wkg_f_X12_four_12) rfl rfl rfl (by decide +kernel) ⟨Nat.le_of_ble_eq_true rfl, Nat.le_of_ble_eq_true rfl⟩) ⟨fun a U g mk q => by obtain ⟨q0, q1, qP, qK, qD⟩ := q; exact ⟨q0, q1, qP, va_K.moved (u := U) (U := U.calling g mk a) (Vm.Alike.refl U.vm) qK, qD⟩, va_recv hKc hPc (ci := 12) (q0 := 0) rfl rfl, fun U hU hW => ⟨rfl, by rw [hU], by rw [hU]; exact hPc, va_K.moved hW.alike hKc, hDc.weaken (fun _ _ _ _ => trivial)⟩⟩ rfl rfl hl.1 rfl (lv_room (Nat.le_of_ble_eq_true rfl)) dX12_feed_38 ⟨Nat.le_of_ble_eq_true rfl, Nat.le_of_ble_eq_true rfl⟩) hS (fun q _ h => hFc q h) hFc (fun u t H1 locs ht hvm hz12 hB hz1 hk1 hS => ?_)
    obtain ⟨fz14, hP1, hK1, hD1⟩ := hB
    rw [ht] at hP1
    have hK1 := va_K.moved hvm.symm hK1
    obtain ⟨hP, hD⟩ := va_join (wr := []) (w1 := [(h0, .inr (12, [.int 0, .ref m1, .ref m2, .ref m3, .ref m4, .ref m5, .int 16, .int 0, .int 0, .int 0, .int 0, .long 0, .int 0, .int 0, .int 0, .int (-1), .ref m16, .ref m17, .ref m18, .ref m19, .ref m20, .ref m21, .ref m22, .ref m23, .int 0, .int 0, .int 0, .ref m27, .ref m28, .ref m29, .ref m30, .ref m31, .ref m32, .ref m33, .ref m34, .ref m35, .ref m36, .ref m37, .ref m38, .ref m39, .ref m40, .ref m41, .ref m42, .int 0, .int 0, .int 0, .ref m46, .int 0, .int 0, .int 0, .int 0, .int 0, .int 0, .ref m53, .int 0, .int 0, .int 0, .ref m57, .ref m58])), (m5, .inl (k5, 700, .inl fz14))]) hP hD [0, 1] [] rfl rfl (by decide) (by decide) hk1 hFc hP1 hD1
    have hK := (hK.sub (tys' := []) [] rfl).app hK1
    generalize H1 = H at hP hS ⊢
    have hK : va_K (dC, dI) vwCl [(k5, .byte)] s := hK
    have hP : va_P (dC, dI) vwCl [(h0, .inr (12, [.int 0, .ref m1, .ref m2, .ref m3, .ref m4, .ref m5, .int 16, .int 0, .int 0, .int 0, .int 0, .long 0, .int 0, .int 0, .int 0, .int (-1), .ref m16, .ref m17, .ref m18, .ref m19, .ref m20, .ref m21, .ref m22, .ref m23, .int 0, .int 0, .int 0, .ref m27, .ref m28, .ref m29, .ref m30, .ref m31, .ref m32, .ref m33, .ref m34, .ref m35, .ref m36, .ref m37, .ref m38, .ref m39, .ref m40, .ref m41, .ref m42, .int 0, .int 0, .int 0, .ref m46, .int 0, .int 0, .int 0, .int 0, .int 0, .int 0, .ref m53, .int 0, .int 0, .int 0, .ref m57, .ref m58])), (m5, .inl (k5, 700, .inl fz14))] H := hP
    have hD : va_D A [(h0, .inr (12, [.int 0, .ref m1, .ref m2, .ref m3, .ref m4, .ref m5, .int 16, .int 0, .int 0, .int 0, .int 0, .long 0, .int 0, .int 0, .int 0, .int (-1), .ref m16, .ref m17, .ref m18, .ref m19, .ref m20, .ref m21, .ref m22, .ref m23, .int 0, .int 0, .int 0, .ref m27, .ref m28, .ref m29, .ref m30, .ref m31, .ref m32, .ref m33, .ref m34, .ref m35, .ref m36, .ref m37, .ref m38, .ref m39, .ref m40, .ref m41, .ref m42, .int 0, .int 0, .int 0, .ref m46, .int 0, .int 0, .int 0, .int 0, .int 0, .int 0, .ref m53, .int 0, .int 0, .int 0, .ref m57, .ref m58])), (m5, .inl (k5, 700, .inl fz14))] := hD
    refine W.widen (k := 0) (n := 0) (Nat.le_of_ble_eq_true rfl) (Nat.le_of_ble_eq_true rfl) ?_
    refine lv_aload_n hx hb dX12_feed_41 rfl (lv_at hl 0 rfl) ?_
    refine lv_iload hx hb dX12_feed_42 (lv_at hl 5 rfl) ?_
    have hPc := hP.sub (ws' := [(h0, .inr (12, [.int 0, .ref m1, .ref m2, .ref m3, .ref m4, .ref m5, .int 16, .int 0, .int 0, .int 0, .int 0, .long 0, .int 0, .int 0, .int 0, .int (-1), .ref m16, .ref m17, .ref m18, .ref m19, .ref m20, .ref m21, .ref m22, .ref m23, .int 0, .int 0, .int 0, .ref m27, .ref m28, .ref m29, .ref m30, .ref m31, .ref m32, .ref m33, .ref m34, .ref m35, .ref m36, .ref m37, .ref m38, .ref m39, .ref m40, .ref m41, .ref m42, .int 0, .int 0, .int 0, .ref m46, .int 0, .int 0, .int 0, .int 0, .int 0, .int 0, .ref m53, .int 0, .int 0, .int 0, .ref m57, .ref m58])), (m5, .inl (k5, 700, .inl fz14))]) [0, 1] rfl
    have hKc := hK.sub (tys' := [(k5, .byte)]) [0] rfl
    have hDc := hD.sub (ws' := [(h0, .inr (12, [.int 0, .ref m1, .ref m2, .ref m3, .ref m4, .ref m5, .int 16, .int 0, .int 0, .int 0, .int 0, .long 0, .int 0, .int 0, .int 0, .int (-1), .ref m16, .ref m17, .ref m18, .ref m19, .ref m20, .ref m21, .ref m22, .ref m23, .int 0, .int 0, .int 0, .ref m27, .ref m28, .ref m29, .ref m30, .ref m31, .ref m32, .ref m33, .ref m34, .ref m35, .ref m36, .ref m37, .ref m38, .ref m39, .ref m40, .ref m41, .ref m42, .int 0, .int 0, .int 0, .ref m46, .int 0, .int 0, .int 0, .int 0, .int 0, .int 0, .ref m53, .int 0, .int 0, .int 0, .ref m57, .ref m58])), (m5, .inl (k5, 700, .inl fz14))]) [0, 1] (by decide) rfl
    have hFc := va_free (wc := [(h0, .inr (12, [.int 0, .ref m1, .ref m2, .ref m3, .ref m4, .ref m5, .int 16, .int 0, .int 0, .int 0, .int 0, .long 0, .int 0, .int 0, .int 0, .int (-1), .ref m16, .ref m17, .ref m18, .ref m19, .ref m20, .ref m21, .ref m22, .ref m23, .int 0, .int 0, .int 0, .ref m27, .ref m28, .ref m29, .ref m30, .ref m31, .ref m32, .ref m33, .ref m34, .ref m35, .ref m36, .ref m37, .ref m38, .ref m39, .ref m40, .ref m41, .ref m42, .int 0, .int 0, .int 0, .ref m46, .int 0, .int 0, .int 0, .int 0, .int 0, .int 0, .ref m53, .int 0, .int 0, .int 0, .ref m57, .ref m58])), (m5, .inl (k5, 700, .inl fz14))]) hD hS hA [0, 1] rfl
    refine va_callv (va_runV (As := [.int p5]) (rest := []) ⟨hx, hb, hml, hown, hts⟩ (f_X12_four_16 l dC dI H.size h0 m1 m2 m3 m4 m5 m16 m17 m18 m19 m20 m21 m22 m23 m27 m28 m29 m30 m31 m32 m33 m34 m35 m36 m37 m38 m39 m40 m41 m42 m46 m53 m57 m58 k5 fz14 p5) (cwV 1 hts (gk_V (wl_mem 2 rfl) (wl_mem 3 rfl) (wl_mem 4 rfl) (wl_mem 5 rfl) (fun w h => List.mem_cons_of_mem _ (List.mem_append_right _ (List.mem_append_right _ (List.mem_append_right _ (List.mem_append_right _ (List.mem_append_right _ (List.mem_append_right _ (List.mem_append_left _ h)))))))) wkg_f_X12_four_16) rfl rfl rfl (by decide +kernel) ⟨Nat.le_of_ble_eq_true rfl, Nat.le_of_ble_eq_true rfl⟩) ⟨fun a U g mk q => by obtain ⟨q0, q1, qP, qK, qD⟩ := q; exact ⟨q0, q1, qP, va_K.moved (u := U) (U := U.calling g mk a) (Vm.Alike.refl U.vm) qK, qD⟩, va_recv hKc hPc (ci := 12) (q0 := 0) rfl rfl, fun U hU hW => ⟨rfl, by rw [hU], by rw [hU]; exact hPc, va_K.moved hW.alike hKc, hDc.weaken (fun _ _ _ _ => trivial)⟩⟩ rfl rfl hl.1 rfl (lv_room (Nat.le_of_ble_eq_true rfl)) dX12_feed_44 ⟨Nat.le_of_ble_eq_true rfl, Nat.le_of_ble_eq_true rfl⟩) hS (fun q _ h => hFc q h) hFc (fun u t H1 locs ht hvm hz15 hB hz1 hk1 hS => ?_)
    obtain ⟨fz17, hP1, hK1, hD1⟩ := hB
    rw [ht] at hP1
    have hK1 := va_K.moved hvm.symm hK1
    obtain ⟨hP, hD⟩ := va_join (wr := []) (w1 := [(h0, .inr (12, [.int 0, .ref m1, .ref m2, .ref m3, .ref m4, .ref m5, .int 20, .int 0, .int 0, .int 0, .int 0, .long 0, .int 0, .int 0, .int 0, .int (-1), .ref m16, .ref m17, .ref m18, .ref m19, .ref m20, .ref m21, .ref m22, .ref m23, .int 0, .int 0, .int 0, .ref m27, .ref m28, .ref m29, .ref m30, .ref m31, .ref m32, .ref m33, .ref m34, .ref m35, .ref m36, .ref m37, .ref m38, .ref m39, .ref m40, .ref m41, .ref m42, .int 0, .int 0, .int 0, .ref m46, .int 0, .int 0, .int 0, .int 0, .int 0, .int 0, .ref m53, .int 0, .int 0, .int 0, .ref m57, .ref m58])), (m5, .inl (k5, 700, .inl fz17))]) hP hD [0, 1] [] rfl rfl (by decide) (by decide) hk1 hFc hP1 hD1
    have hK := (hK.sub (tys' := []) [] rfl).app hK1
    generalize H1 = H at hP hS ⊢
    have hK : va_K (dC, dI) vwCl [(k5, .byte)] s := hK
    have hP : va_P (dC, dI) vwCl [(h0, .inr (12, [.int 0, .ref m1, .ref m2, .ref m3, .ref m4, .ref m5, .int 20, .int 0, .int 0, .int 0, .int 0, .long 0, .int 0, .int 0, .int 0, .int (-1), .ref m16, .ref m17, .ref m18, .ref m19, .ref m20, .ref m21, .ref m22, .ref m23, .int 0, .int 0, .int 0, .ref m27, .ref m28, .ref m29, .ref m30, .ref m31, .ref m32, .ref m33, .ref m34, .ref m35, .ref m36, .ref m37, .ref m38, .ref m39, .ref m40, .ref m41, .ref m42, .int 0, .int 0, .int 0, .ref m46, .int 0, .int 0, .int 0, .int 0, .int 0, .int 0, .ref m53, .int 0, .int 0, .int 0, .ref m57, .ref m58])), (m5, .inl (k5, 700, .inl fz17))] H := hP
    have hD : va_D A [(h0, .inr (12, [.int 0, .ref m1, .ref m2, .ref m3, .ref m4, .ref m5, .int 20, .int 0, .int 0, .int 0, .int 0, .long 0, .int 0, .int 0, .int 0, .int (-1), .ref m16, .ref m17, .ref m18, .ref m19, .ref m20, .ref m21, .ref m22, .ref m23, .int 0, .int 0, .int 0, .ref m27, .ref m28, .ref m29, .ref m30, .ref m31, .ref m32, .ref m33, .ref m34, .ref m35, .ref m36, .ref m37, .ref m38, .ref m39, .ref m40, .ref m41, .ref m42, .int 0, .int 0, .int 0, .ref m46, .int 0, .int 0, .int 0, .int 0, .int 0, .int 0, .ref m53, .int 0, .int 0, .int 0, .ref m57, .ref m58])), (m5, .inl (k5, 700, .inl fz17))] := hD
    refine W.widen (k := 0) (n := 0) (Nat.le_of_ble_eq_true rfl) (Nat.le_of_ble_eq_true rfl) ?_
    refine lv_aload_n hx hb dX12_feed_47 rfl (lv_at hl 0 rfl) ?_
    refine va_get (D := (dC, dI)) (ci := 12) (v := .int 20) (C := RX12) (T := TX12) (N := 59) hx hb hts (fun w h => List.mem_cons_of_mem _ (List.mem_append_right _ (List.mem_append_left _ h))) hown hK hP 0 rfl rfl 6 (by decide) (hts (.fieldLink RX12 133 "SagMemoryModel" "taped" "I") (wl_mem 1 rfl)) (fun _ h9 => h9) rfl dX12_feed_48 ?_
    exact W.iret (v := 20) hx hb hr (fun t ht hW => ⟨⟨20, (), rfl, rfl, trivial⟩, hS.F ht⟩) hS.2.2 dX12_feed_51
  · skip
    exact absurd cz2 (by decide)
def wk_f_X12_end : List Cond := .code yX12_end cX12_end 2 (some .int) :: ([.fieldLink RX12 116 "SagMemoryModel" "thrown" "I", .fieldLink RX12 133 "SagMemoryModel" "taped" "I", .methodLink RX12 121 yX12_in, .static yX12_in, .initialized RX12] ++ (wsX120 ++ (wk_f_X12_in ++ [])))
theorem wkg_f_X12_end : wk_f_X12_end.all goodWord = true := by decide +kernel
set_option maxHeartbeats 4000000 in
set_option maxRecDepth 100000 in
theorem f_X12_end (l : Launch) (dC : Nat → ClassId) (dI : Nat → Nat → Nat) (sz : Nat) (h0 : Nat) (m1 : Nat) (m2 : Nat) (m3 : Nat) (m4 : Nat) (m5 : Nat) (m16 : Nat) (m17 : Nat) (m18 : Nat) (m19 : Nat) (m20 : Nat) (m21 : Nat) (m22 : Nat) (m23 : Nat) (m27 : Nat) (m28 : Nat) (m29 : Nat) (m30 : Nat) (m31 : Nat) (m32 : Nat) (m33 : Nat) (m34 : Nat) (m35 : Nat) (m36 : Nat) (m37 : Nat) (m38 : Nat) (m39 : Nat) (m40 : Nat) (m41 : Nat) (m42 : Nat) (m46 : Nat) (m53 : Nat) (m57 : Nat) (m58 : Nat) (p1 : Int32) : Met l yX12_end wk_f_X12_end ({ frames := 1, cells := 0, slots := 0, locals := 25 }) (va_Pc [.ref h0, .int p1] (fun U => U.heap.size = sz ∧ va_P (dC, dI) vwCl [(h0, .inr (12, [.int 0, .ref m1, .ref m2, .ref m3, .ref m4, .ref m5, .int 0, .int 0, .int 0, .int 0, .int 0, .long 0, .int 0, .int 0, .int 0, .int (-1), .ref m16, .ref m17, .ref m18, .ref m19, .ref m20, .ref m21, .ref m22, .ref m23, .int 0, .int 0, .int 0, .ref m27, .ref m28, .ref m29, .ref m30, .ref m31, .ref m32, .ref m33, .ref m34, .ref m35, .ref m36, .ref m37, .ref m38, .ref m39, .ref m40, .ref m41, .ref m42, .int 0, .int 0, .int 0, .ref m46, .int 0, .int 0, .int 0, .int 0, .int 0, .int 0, .ref m53, .int 0, .int 0, .int 0, .ref m57, .ref m58]))] U.heap ∧ va_K (dC, dI) vwCl [] U ∧ va_D (fun _ => True) [(h0, .inr (12, [.int 0, .ref m1, .ref m2, .ref m3, .ref m4, .ref m5, .int 0, .int 0, .int 0, .int 0, .int 0, .long 0, .int 0, .int 0, .int 0, .int (-1), .ref m16, .ref m17, .ref m18, .ref m19, .ref m20, .ref m21, .ref m22, .ref m23, .int 0, .int 0, .int 0, .ref m27, .ref m28, .ref m29, .ref m30, .ref m31, .ref m32, .ref m33, .ref m34, .ref m35, .ref m36, .ref m37, .ref m38, .ref m39, .ref m40, .ref m41, .ref m42, .int 0, .int 0, .int 0, .ref m46, .int 0, .int 0, .int 0, .int 0, .int 0, .int 0, .ref m53, .int 0, .int 0, .int 0, .ref m57, .ref m58]))])) (va_Qi (fun (r : Int32) (_ : Unit) => (r = (-1) ∧ p1.toInt64 < (0 : Int64)) ∨ (r = (-1) ∧ ¬ p1.toInt64 < (0 : Int64) ∧ (0 : Int64) < p1.toInt64) ∨ (r = p1 ∧ ¬ p1.toInt64 < (0 : Int64) ∧ ¬ (0 : Int64) < p1.toInt64)) (fun (_ : Unit) (_ : State) => True) (va_A [(h0, .inr (12, [.int 0, .ref m1, .ref m2, .ref m3, .ref m4, .ref m5, .int 0, .int 0, .int 0, .int 0, .int 0, .long 0, .int 0, .int 0, .int 0, .int (-1), .ref m16, .ref m17, .ref m18, .ref m19, .ref m20, .ref m21, .ref m22, .ref m23, .int 0, .int 0, .int 0, .ref m27, .ref m28, .ref m29, .ref m30, .ref m31, .ref m32, .ref m33, .ref m34, .ref m35, .ref m36, .ref m37, .ref m38, .ref m39, .ref m40, .ref m41, .ref m42, .int 0, .int 0, .int 0, .ref m46, .int 0, .int 0, .int 0, .int 0, .int 0, .int 0, .ref m53, .int 0, .int 0, .int 0, .ref m57, .ref m58]))] sz)) 0 0 (va_A [(h0, .inr (12, [.int 0, .ref m1, .ref m2, .ref m3, .ref m4, .ref m5, .int 0, .int 0, .int 0, .int 0, .int 0, .long 0, .int 0, .int 0, .int 0, .int (-1), .ref m16, .ref m17, .ref m18, .ref m19, .ref m20, .ref m21, .ref m22, .ref m23, .int 0, .int 0, .int 0, .ref m27, .ref m28, .ref m29, .ref m30, .ref m31, .ref m32, .ref m33, .ref m34, .ref m35, .ref m36, .ref m37, .ref m38, .ref m39, .ref m40, .ref m41, .ref m42, .int 0, .int 0, .int 0, .ref m46, .int 0, .int 0, .int 0, .int 0, .int 0, .int 0, .ref m53, .int 0, .int 0, .int 0, .ref m57, .ref m58]))] sz) := by
  refine Met.ofW (cc := cX12_end) (maxL := 2) (ret := (some .int)) (by decide) rfl ?_
  intro p e s m args below meth c s₁ B hml hv
  obtain ⟨rfl, hsz, hP, hK, hD0⟩ := hv
  have hx := B.exec
  have hb := B.bytes
  have hr := B.returns
  have hts := atoms_spec (ws := wk_f_X12_end) B.pre
  have hown : s.vm.findClass RX12 = some m.cls := findClass_of_methodNamed B.named
  have hlocks := B.notSynchronized
  subst hsz
  have hD := hD0.self (sz := s.heap.size)
  generalize hAe : va_A [(h0, .inr (12, [.int 0, .ref m1, .ref m2, .ref m3, .ref m4, .ref m5, .int 0, .int 0, .int 0, .int 0, .int 0, .long 0, .int 0, .int 0, .int 0, .int (-1), .ref m16, .ref m17, .ref m18, .ref m19, .ref m20, .ref m21, .ref m22, .ref m23, .int 0, .int 0, .int 0, .ref m27, .ref m28, .ref m29, .ref m30, .ref m31, .ref m32, .ref m33, .ref m34, .ref m35, .ref m36, .ref m37, .ref m38, .ref m39, .ref m40, .ref m41, .ref m42, .int 0, .int 0, .int 0, .ref m46, .int 0, .int 0, .int 0, .int 0, .int 0, .int 0, .ref m53, .int 0, .int 0, .int 0, .ref m57, .ref m58]))] s.heap.size = A at hD ⊢
  have hA : ∀ q : Nat, s.heap.size ≤ q → A q := fun q h => by rw [← hAe]; exact Or.inr h
  have hS : va_S A s.heap s.heap [] := va_S.rf
  have hP : va_P (dC, dI) vwCl [(h0, .inr (12, [.int 0, .ref m1, .ref m2, .ref m3, .ref m4, .ref m5, .int 0, .int 0, .int 0, .int 0, .int 0, .long 0, .int 0, .int 0, .int 0, .int (-1), .ref m16, .ref m17, .ref m18, .ref m19, .ref m20, .ref m21, .ref m22, .ref m23, .int 0, .int 0, .int 0, .ref m27, .ref m28, .ref m29, .ref m30, .ref m31, .ref m32, .ref m33, .ref m34, .ref m35, .ref m36, .ref m37, .ref m38, .ref m39, .ref m40, .ref m41, .ref m42, .int 0, .int 0, .int 0, .ref m46, .int 0, .int 0, .int 0, .int 0, .int 0, .int 0, .ref m53, .int 0, .int 0, .int 0, .ref m57, .ref m58]))] s.heap := hP
  have hl := lv_entry ([.ref h0, .int p1]) (n := 2) (Nat.le_of_ble_eq_true rfl)
  rw [lg_entry_eq]
  generalize (lg_sl ([.ref h0, .int p1]) ++ List.replicate (2 - (lg_sl ([.ref h0, .int p1])).length) Slot.unset).toArray = ls at hl ⊢
  have hl : lv_has ls 2 [(0, .ref h0), (1, .int p1)] := hl
  refine lv_aload_n hx hb dX12_end_0 rfl (lv_at hl 0 rfl) ?_
  refine lv_iconst (v := 0) hx hb dX12_end_1 (by decide) ?_
  refine va_put (D := (dC, dI)) (ci := 12) (v := .int 0) (ty := .int) (C := RX12) (T := TX12) (N := 59) hx hb hts (fun w h => List.mem_cons_of_mem _ (List.mem_append_right _ (List.mem_append_left _ h))) tyX12 tyX12_ok nmX12 hown hK hP hD hS 0 rfl rfl 0 (by decide) (hts (.fieldLink RX12 116 "SagMemoryModel" "thrown" "I") (wl_mem 0 rfl)) (fun _ h9 => h9) rfl (by decide +kernel) rfl rfl (Nat.le_of_ble_eq_true rfl) dX12_end_2 (fun H locs hP hD hS => ?_)
  have hP : va_P (dC, dI) vwCl [(h0, .inr (12, [.int 0, .ref m1, .ref m2, .ref m3, .ref m4, .ref m5, .int 0, .int 0, .int 0, .int 0, .int 0, .long 0, .int 0, .int 0, .int 0, .int (-1), .ref m16, .ref m17, .ref m18, .ref m19, .ref m20, .ref m21, .ref m22, .ref m23, .int 0, .int 0, .int 0, .ref m27, .ref m28, .ref m29, .ref m30, .ref m31, .ref m32, .ref m33, .ref m34, .ref m35, .ref m36, .ref m37, .ref m38, .ref m39, .ref m40, .ref m41, .ref m42, .int 0, .int 0, .int 0, .ref m46, .int 0, .int 0, .int 0, .int 0, .int 0, .int 0, .ref m53, .int 0, .int 0, .int 0, .ref m57, .ref m58]))] H := hP
  have hD : va_D A [(h0, .inr (12, [.int 0, .ref m1, .ref m2, .ref m3, .ref m4, .ref m5, .int 0, .int 0, .int 0, .int 0, .int 0, .long 0, .int 0, .int 0, .int 0, .int (-1), .ref m16, .ref m17, .ref m18, .ref m19, .ref m20, .ref m21, .ref m22, .ref m23, .int 0, .int 0, .int 0, .ref m27, .ref m28, .ref m29, .ref m30, .ref m31, .ref m32, .ref m33, .ref m34, .ref m35, .ref m36, .ref m37, .ref m38, .ref m39, .ref m40, .ref m41, .ref m42, .int 0, .int 0, .int 0, .ref m46, .int 0, .int 0, .int 0, .int 0, .int 0, .int 0, .ref m53, .int 0, .int 0, .int 0, .ref m57, .ref m58]))] := hD
  refine lv_iload_n hx hb dX12_end_5 rfl (lv_at hl 1 rfl) ?_
  refine lv_i2l hx hb dX12_end_6 rfl ?_
  refine lv_lconst (v := 0) hx hb dX12_end_7 (by decide) ?_
  refine lv_aload_n hx hb dX12_end_8 rfl (lv_at hl 0 rfl) ?_
  refine va_get (D := (dC, dI)) (ci := 12) (v := .int 0) (C := RX12) (T := TX12) (N := 59) hx hb hts (fun w h => List.mem_cons_of_mem _ (List.mem_append_right _ (List.mem_append_left _ h))) hown hK hP 0 rfl rfl 6 (by decide) (hts (.fieldLink RX12 133 "SagMemoryModel" "taped" "I") (wl_mem 1 rfl)) (fun _ h9 => h9) rfl dX12_end_9 ?_
  refine lv_i2l (v := 0) hx hb dX12_end_12 (by decide) ?_
  have hPc := hP.sub (ws' := []) [] rfl
  have hKc := hK.sub (tys' := []) [] rfl
  refine vp_callSi (va_Run.run (va_runS (As := [.long p1.toInt64, .long 0, .long 0]) (rest := []) ⟨hx, hb, hml, hown, hts⟩ (f_X12_in l dC dI p1.toInt64 0 0) (va_cwS 3 hts (gk_S (wl_mem 2 rfl) (wl_mem 3 rfl) (wl_mem 4 rfl) (fun w h => List.mem_cons_of_mem _ (List.mem_append_right _ (List.mem_append_right _ (List.mem_append_left _ h)))) wkg_f_X12_in) rfl rfl rfl (by decide +kernel) ⟨Nat.le_of_ble_eq_true rfl, Nat.le_of_ble_eq_true rfl⟩) ⟨fun a U g mk q => by obtain ⟨q0, qP, qK⟩ := q; exact ⟨q0, qP, va_K.moved (u := U) (U := U.calling g mk a) (Vm.Alike.refl U.vm) qK⟩, fun U hU hW => ⟨rfl, by rw [hU]; exact hPc, va_K.moved hW.alike hKc⟩⟩ rfl rfl hl.1 rfl (lv_room (Nat.le_of_ble_eq_true rfl)) dX12_end_13 ⟨Nat.le_of_ble_eq_true rfl, Nat.le_of_ble_eq_true rfl⟩)) (fun rz2 hz1 => ?_)
  rcases hz1 with ⟨rfl, cz3⟩ | ⟨rfl, cz4, cz5⟩ | ⟨rfl, cz6, cz7⟩
  · skip
    refine lv_if_ne (tgt := 21) hx hb dX12_end_16 (by decide) (fun cz8 => ?_) (fun cz8 => ?_)
    · skip
      exact absurd cz8 (by decide)
    · skip
      refine lv_iconst (v := (-1)) hx hb dX12_end_19 (by decide) ?_
      exact W.iret (v := (-1)) hx hb hr (fun t ht hW => ⟨⟨(-1), (), rfl, Or.inl ⟨rfl, cz3⟩, trivial⟩, hS.F ht⟩) hS.2.2 dX12_end_20
  · skip
    refine lv_if_ne (tgt := 21) hx hb dX12_end_16 (by decide) (fun cz9 => ?_) (fun cz9 => ?_)
    · skip
      exact absurd cz9 (by decide)
    · skip
      refine lv_iconst (v := (-1)) hx hb dX12_end_19 (by decide) ?_
      exact W.iret (v := (-1)) hx hb hr (fun t ht hW => ⟨⟨(-1), (), rfl, Or.inr (Or.inl ⟨rfl, cz4, cz5⟩), trivial⟩, hS.F ht⟩) hS.2.2 dX12_end_20
  · skip
    refine lv_if_ne (tgt := 21) hx hb dX12_end_16 (by decide) (fun cz10 => ?_) (fun cz10 => ?_)
    · skip
      refine lv_aload_n hx hb dX12_end_21 rfl (lv_at hl 0 rfl) ?_
      refine lv_iload_n hx hb dX12_end_22 rfl (lv_at hl 1 rfl) ?_
      refine va_put (D := (dC, dI)) (ci := 12) (v := .int p1) (ty := .int) (C := RX12) (T := TX12) (N := 59) hx hb hts (fun w h => List.mem_cons_of_mem _ (List.mem_append_right _ (List.mem_append_left _ h))) tyX12 tyX12_ok nmX12 hown hK hP hD hS 0 rfl rfl 6 (by decide) (hts (.fieldLink RX12 133 "SagMemoryModel" "taped" "I") (wl_mem 1 rfl)) (fun _ h9 => h9) rfl (by decide +kernel) rfl rfl (Nat.le_of_ble_eq_true rfl) dX12_end_23 (fun H locs hP hD hS => ?_)
      have hP : va_P (dC, dI) vwCl [(h0, .inr (12, [.int 0, .ref m1, .ref m2, .ref m3, .ref m4, .ref m5, .int p1, .int 0, .int 0, .int 0, .int 0, .long 0, .int 0, .int 0, .int 0, .int (-1), .ref m16, .ref m17, .ref m18, .ref m19, .ref m20, .ref m21, .ref m22, .ref m23, .int 0, .int 0, .int 0, .ref m27, .ref m28, .ref m29, .ref m30, .ref m31, .ref m32, .ref m33, .ref m34, .ref m35, .ref m36, .ref m37, .ref m38, .ref m39, .ref m40, .ref m41, .ref m42, .int 0, .int 0, .int 0, .ref m46, .int 0, .int 0, .int 0, .int 0, .int 0, .int 0, .ref m53, .int 0, .int 0, .int 0, .ref m57, .ref m58]))] H := hP
      have hD : va_D A [(h0, .inr (12, [.int 0, .ref m1, .ref m2, .ref m3, .ref m4, .ref m5, .int p1, .int 0, .int 0, .int 0, .int 0, .long 0, .int 0, .int 0, .int 0, .int (-1), .ref m16, .ref m17, .ref m18, .ref m19, .ref m20, .ref m21, .ref m22, .ref m23, .int 0, .int 0, .int 0, .ref m27, .ref m28, .ref m29, .ref m30, .ref m31, .ref m32, .ref m33, .ref m34, .ref m35, .ref m36, .ref m37, .ref m38, .ref m39, .ref m40, .ref m41, .ref m42, .int 0, .int 0, .int 0, .ref m46, .int 0, .int 0, .int 0, .int 0, .int 0, .int 0, .ref m53, .int 0, .int 0, .int 0, .ref m57, .ref m58]))] := hD
      refine lv_iload_n hx hb dX12_end_26 rfl (lv_at hl 1 rfl) ?_
      exact W.iret (v := p1) hx hb hr (fun t ht hW => ⟨⟨p1, (), rfl, Or.inr (Or.inr (⟨rfl, cz6, cz7⟩)), trivial⟩, hS.F ht⟩) hS.2.2 dX12_end_27
    · skip
      exact absurd cz10 (by decide)
def wk_f_X12_fault : List Cond := .code yX12_fault cX12_fault 2 (some .int) :: ([.fieldLink RX12 116 "SagMemoryModel" "thrown" "I", .fieldLink RX12 27 "SagMemoryModel" "faultPlace" "I", .fieldLink RX12 195 "SagMemoryModel" "fault" "I"] ++ (wsX120 ++ []))
theorem wkg_f_X12_fault : wk_f_X12_fault.all goodWord = true := by decide +kernel
set_option maxHeartbeats 4000000 in
set_option maxRecDepth 100000 in
theorem f_X12_fault (l : Launch) (dC : Nat → ClassId) (dI : Nat → Nat → Nat) (sz : Nat) (h0 : Nat) (m1 : Nat) (m2 : Nat) (m3 : Nat) (m4 : Nat) (m5 : Nat) (m16 : Nat) (m17 : Nat) (m18 : Nat) (m19 : Nat) (m20 : Nat) (m21 : Nat) (m22 : Nat) (m23 : Nat) (m27 : Nat) (m28 : Nat) (m29 : Nat) (m30 : Nat) (m31 : Nat) (m32 : Nat) (m33 : Nat) (m34 : Nat) (m35 : Nat) (m36 : Nat) (m37 : Nat) (m38 : Nat) (m39 : Nat) (m40 : Nat) (m41 : Nat) (m42 : Nat) (m46 : Nat) (m53 : Nat) (m57 : Nat) (m58 : Nat) (p1 : Int32) : Met l yX12_fault wk_f_X12_fault ({ frames := 0, cells := 0, slots := 0, locals := 0 }) (va_Pc [.ref h0, .int p1] (fun U => U.heap.size = sz ∧ va_P (dC, dI) vwCl [(h0, .inr (12, [.int 0, .ref m1, .ref m2, .ref m3, .ref m4, .ref m5, .int 0, .int 0, .int 0, .int 0, .int 0, .long 0, .int 0, .int 0, .int 0, .int (-1), .ref m16, .ref m17, .ref m18, .ref m19, .ref m20, .ref m21, .ref m22, .ref m23, .int 0, .int 0, .int 0, .ref m27, .ref m28, .ref m29, .ref m30, .ref m31, .ref m32, .ref m33, .ref m34, .ref m35, .ref m36, .ref m37, .ref m38, .ref m39, .ref m40, .ref m41, .ref m42, .int 0, .int 0, .int 0, .ref m46, .int 0, .int 0, .int 0, .int 0, .int 0, .int 0, .ref m53, .int 0, .int 0, .int 0, .ref m57, .ref m58]))] U.heap ∧ va_K (dC, dI) vwCl [] U ∧ va_D (fun _ => True) [(h0, .inr (12, [.int 0, .ref m1, .ref m2, .ref m3, .ref m4, .ref m5, .int 0, .int 0, .int 0, .int 0, .int 0, .long 0, .int 0, .int 0, .int 0, .int (-1), .ref m16, .ref m17, .ref m18, .ref m19, .ref m20, .ref m21, .ref m22, .ref m23, .int 0, .int 0, .int 0, .ref m27, .ref m28, .ref m29, .ref m30, .ref m31, .ref m32, .ref m33, .ref m34, .ref m35, .ref m36, .ref m37, .ref m38, .ref m39, .ref m40, .ref m41, .ref m42, .int 0, .int 0, .int 0, .ref m46, .int 0, .int 0, .int 0, .int 0, .int 0, .int 0, .ref m53, .int 0, .int 0, .int 0, .ref m57, .ref m58]))])) (va_Qi (fun (r : Int32) (_ : Unit) => (r = (-1) ∧ ¬ p1 = (0 : Int32) ∧ ¬ p1 = (1 : Int32)) ∨ (r = (-1) ∧ ¬ p1 = (0 : Int32) ∧ p1 = (1 : Int32)) ∨ (r = 0 ∧ p1 = (0 : Int32))) (fun (_ : Unit) (_ : State) => True) (va_A [(h0, .inr (12, [.int 0, .ref m1, .ref m2, .ref m3, .ref m4, .ref m5, .int 0, .int 0, .int 0, .int 0, .int 0, .long 0, .int 0, .int 0, .int 0, .int (-1), .ref m16, .ref m17, .ref m18, .ref m19, .ref m20, .ref m21, .ref m22, .ref m23, .int 0, .int 0, .int 0, .ref m27, .ref m28, .ref m29, .ref m30, .ref m31, .ref m32, .ref m33, .ref m34, .ref m35, .ref m36, .ref m37, .ref m38, .ref m39, .ref m40, .ref m41, .ref m42, .int 0, .int 0, .int 0, .ref m46, .int 0, .int 0, .int 0, .int 0, .int 0, .int 0, .ref m53, .int 0, .int 0, .int 0, .ref m57, .ref m58]))] sz)) 0 0 (va_A [(h0, .inr (12, [.int 0, .ref m1, .ref m2, .ref m3, .ref m4, .ref m5, .int 0, .int 0, .int 0, .int 0, .int 0, .long 0, .int 0, .int 0, .int 0, .int (-1), .ref m16, .ref m17, .ref m18, .ref m19, .ref m20, .ref m21, .ref m22, .ref m23, .int 0, .int 0, .int 0, .ref m27, .ref m28, .ref m29, .ref m30, .ref m31, .ref m32, .ref m33, .ref m34, .ref m35, .ref m36, .ref m37, .ref m38, .ref m39, .ref m40, .ref m41, .ref m42, .int 0, .int 0, .int 0, .ref m46, .int 0, .int 0, .int 0, .int 0, .int 0, .int 0, .ref m53, .int 0, .int 0, .int 0, .ref m57, .ref m58]))] sz) := by
  refine Met.ofW (cc := cX12_fault) (maxL := 2) (ret := (some .int)) (by decide) rfl ?_
  intro p e s m args below meth c s₁ B hml hv
  obtain ⟨rfl, hsz, hP, hK, hD0⟩ := hv
  have hx := B.exec
  have hb := B.bytes
  have hr := B.returns
  have hts := atoms_spec (ws := wk_f_X12_fault) B.pre
  have hown : s.vm.findClass RX12 = some m.cls := findClass_of_methodNamed B.named
  have hlocks := B.notSynchronized
  subst hsz
  have hD := hD0.self (sz := s.heap.size)
  generalize hAe : va_A [(h0, .inr (12, [.int 0, .ref m1, .ref m2, .ref m3, .ref m4, .ref m5, .int 0, .int 0, .int 0, .int 0, .int 0, .long 0, .int 0, .int 0, .int 0, .int (-1), .ref m16, .ref m17, .ref m18, .ref m19, .ref m20, .ref m21, .ref m22, .ref m23, .int 0, .int 0, .int 0, .ref m27, .ref m28, .ref m29, .ref m30, .ref m31, .ref m32, .ref m33, .ref m34, .ref m35, .ref m36, .ref m37, .ref m38, .ref m39, .ref m40, .ref m41, .ref m42, .int 0, .int 0, .int 0, .ref m46, .int 0, .int 0, .int 0, .int 0, .int 0, .int 0, .ref m53, .int 0, .int 0, .int 0, .ref m57, .ref m58]))] s.heap.size = A at hD ⊢
  have hA : ∀ q : Nat, s.heap.size ≤ q → A q := fun q h => by rw [← hAe]; exact Or.inr h
  have hS : va_S A s.heap s.heap [] := va_S.rf
  have hP : va_P (dC, dI) vwCl [(h0, .inr (12, [.int 0, .ref m1, .ref m2, .ref m3, .ref m4, .ref m5, .int 0, .int 0, .int 0, .int 0, .int 0, .long 0, .int 0, .int 0, .int 0, .int (-1), .ref m16, .ref m17, .ref m18, .ref m19, .ref m20, .ref m21, .ref m22, .ref m23, .int 0, .int 0, .int 0, .ref m27, .ref m28, .ref m29, .ref m30, .ref m31, .ref m32, .ref m33, .ref m34, .ref m35, .ref m36, .ref m37, .ref m38, .ref m39, .ref m40, .ref m41, .ref m42, .int 0, .int 0, .int 0, .ref m46, .int 0, .int 0, .int 0, .int 0, .int 0, .int 0, .ref m53, .int 0, .int 0, .int 0, .ref m57, .ref m58]))] s.heap := hP
  have hl := lv_entry ([.ref h0, .int p1]) (n := 2) (Nat.le_of_ble_eq_true rfl)
  rw [lg_entry_eq]
  generalize (lg_sl ([.ref h0, .int p1]) ++ List.replicate (2 - (lg_sl ([.ref h0, .int p1])).length) Slot.unset).toArray = ls at hl ⊢
  have hl : lv_has ls 2 [(0, .ref h0), (1, .int p1)] := hl
  refine lv_aload_n hx hb dX12_fault_0 rfl (lv_at hl 0 rfl) ?_
  refine lv_iconst (v := 0) hx hb dX12_fault_1 (by decide) ?_
  refine va_put (D := (dC, dI)) (ci := 12) (v := .int 0) (ty := .int) (C := RX12) (T := TX12) (N := 59) hx hb hts (fun w h => List.mem_cons_of_mem _ (List.mem_append_right _ (List.mem_append_left _ h))) tyX12 tyX12_ok nmX12 hown hK hP hD hS 0 rfl rfl 0 (by decide) (hts (.fieldLink RX12 116 "SagMemoryModel" "thrown" "I") (wl_mem 0 rfl)) (fun _ h9 => h9) rfl (by decide +kernel) rfl rfl (Nat.le_of_ble_eq_true rfl) dX12_fault_2 (fun H locs hP hD hS => ?_)
  have hP : va_P (dC, dI) vwCl [(h0, .inr (12, [.int 0, .ref m1, .ref m2, .ref m3, .ref m4, .ref m5, .int 0, .int 0, .int 0, .int 0, .int 0, .long 0, .int 0, .int 0, .int 0, .int (-1), .ref m16, .ref m17, .ref m18, .ref m19, .ref m20, .ref m21, .ref m22, .ref m23, .int 0, .int 0, .int 0, .ref m27, .ref m28, .ref m29, .ref m30, .ref m31, .ref m32, .ref m33, .ref m34, .ref m35, .ref m36, .ref m37, .ref m38, .ref m39, .ref m40, .ref m41, .ref m42, .int 0, .int 0, .int 0, .ref m46, .int 0, .int 0, .int 0, .int 0, .int 0, .int 0, .ref m53, .int 0, .int 0, .int 0, .ref m57, .ref m58]))] H := hP
  have hD : va_D A [(h0, .inr (12, [.int 0, .ref m1, .ref m2, .ref m3, .ref m4, .ref m5, .int 0, .int 0, .int 0, .int 0, .int 0, .long 0, .int 0, .int 0, .int 0, .int (-1), .ref m16, .ref m17, .ref m18, .ref m19, .ref m20, .ref m21, .ref m22, .ref m23, .int 0, .int 0, .int 0, .ref m27, .ref m28, .ref m29, .ref m30, .ref m31, .ref m32, .ref m33, .ref m34, .ref m35, .ref m36, .ref m37, .ref m38, .ref m39, .ref m40, .ref m41, .ref m42, .int 0, .int 0, .int 0, .ref m46, .int 0, .int 0, .int 0, .int 0, .int 0, .int 0, .ref m53, .int 0, .int 0, .int 0, .ref m57, .ref m58]))] := hD
  refine lv_iload_n hx hb dX12_fault_5 rfl (lv_at hl 1 rfl) ?_
  refine lv_if_ne (tgt := 16) hx hb dX12_fault_6 (by decide) (fun cz1 => ?_) (fun cz1 => ?_)
  · skip
    refine lv_iload_n hx hb dX12_fault_16 rfl (lv_at hl 1 rfl) ?_
    refine lv_iconst (v := 1) hx hb dX12_fault_17 (by decide) ?_
    refine lv_icmp_ne (tgt := 28) hx hb dX12_fault_18 (by decide) (fun cz2 => ?_) (fun cz2 => ?_)
    · skip
      refine lv_iconst (v := (-1)) hx hb dX12_fault_28 (by decide) ?_
      exact W.iret (v := (-1)) hx hb hr (fun t ht hW => ⟨⟨(-1), (), rfl, Or.inl ⟨rfl, cz1, cz2⟩, trivial⟩, hS.F ht⟩) hS.2.2 dX12_fault_29
    · skip
      refine lv_aload_n hx hb dX12_fault_21 rfl (lv_at hl 0 rfl) ?_
      refine va_get (D := (dC, dI)) (ci := 12) (v := .int (-1)) (C := RX12) (T := TX12) (N := 59) hx hb hts (fun w h => List.mem_cons_of_mem _ (List.mem_append_right _ (List.mem_append_left _ h))) hown hK hP 0 rfl rfl 15 (by decide) (hts (.fieldLink RX12 27 "SagMemoryModel" "faultPlace" "I") (wl_mem 1 rfl)) (fun _ h9 => h9) rfl dX12_fault_22 ?_
      refine lv_goto (tgt := 29) hx hb dX12_fault_25 (by decide) ?_
      exact W.iret (v := (-1)) hx hb hr (fun t ht hW => ⟨⟨(-1), (), rfl, Or.inr (Or.inl ⟨rfl, cz1, cz2⟩), trivial⟩, hS.F ht⟩) hS.2.2 dX12_fault_29
  · skip
    refine lv_aload_n hx hb dX12_fault_9 rfl (lv_at hl 0 rfl) ?_
    refine va_get (D := (dC, dI)) (ci := 12) (v := .int 0) (C := RX12) (T := TX12) (N := 59) hx hb hts (fun w h => List.mem_cons_of_mem _ (List.mem_append_right _ (List.mem_append_left _ h))) hown hK hP 0 rfl rfl 14 (by decide) (hts (.fieldLink RX12 195 "SagMemoryModel" "fault" "I") (wl_mem 2 rfl)) (fun _ h9 => h9) rfl dX12_fault_10 ?_
    refine lv_goto (tgt := 29) hx hb dX12_fault_13 (by decide) ?_
    exact W.iret (v := 0) hx hb hr (fun t ht hW => ⟨⟨0, (), rfl, Or.inr (Or.inr (⟨rfl, cz1⟩)), trivial⟩, hS.F ht⟩) hS.2.2 dX12_fault_29
def wk_f_X12_write : List Cond := .code yX12_write cX12_write 5 (some .int) :: ([.fieldLink RX12 116 "SagMemoryModel" "thrown" "I", .methodLink RX12 125 yX12_isSlot, .static yX12_isSlot, .initialized RX12, .fieldLink RX12 7 "SagMemoryModel" "width" "[I"] ++ (wsX120 ++ (wk_f_X12_isSlot ++ [])))
theorem wkg_f_X12_write : wk_f_X12_write.all goodWord = true := by decide +kernel
set_option maxHeartbeats 4000000 in
set_option maxRecDepth 100000 in
theorem f_X12_write (l : Launch) (dC : Nat → ClassId) (dI : Nat → Nat → Nat) (sz : Nat) (h0 : Nat) (m1 : Nat) (m2 : Nat) (m3 : Nat) (m4 : Nat) (m5 : Nat) (m16 : Nat) (m17 : Nat) (m18 : Nat) (m19 : Nat) (m20 : Nat) (m21 : Nat) (m22 : Nat) (m23 : Nat) (m27 : Nat) (m28 : Nat) (m29 : Nat) (m30 : Nat) (m31 : Nat) (m32 : Nat) (m33 : Nat) (m34 : Nat) (m35 : Nat) (m36 : Nat) (m37 : Nat) (m38 : Nat) (m39 : Nat) (m40 : Nat) (m41 : Nat) (m42 : Nat) (m46 : Nat) (m53 : Nat) (m57 : Nat) (m58 : Nat) (k1 : ClassId) (p1 : Int32) (p2 : Int32) (p3 : Int64) : Met l yX12_write wk_f_X12_write ({ frames := 2, cells := 0, slots := 0, locals := 45 }) (va_Pc [.ref h0, .int p1, .int p2, .long p3] (fun U => U.heap.size = sz ∧ va_P (dC, dI) vwCl [(h0, .inr (12, [.int 0, .ref m1, .ref m2, .ref m3, .ref m4, .ref m5, .int 0, .int 0, .int 0, .int 0, .int 0, .long 0, .int 0, .int 0, .int 0, .int (-1), .ref m16, .ref m17, .ref m18, .ref m19, .ref m20, .ref m21, .ref m22, .ref m23, .int 0, .int 0, .int 0, .ref m27, .ref m28, .ref m29, .ref m30, .ref m31, .ref m32, .ref m33, .ref m34, .ref m35, .ref m36, .ref m37, .ref m38, .ref m39, .ref m40, .ref m41, .ref m42, .int 0, .int 0, .int 0, .ref m46, .int 0, .int 0, .int 0, .int 0, .int 0, .int 0, .ref m53, .int 0, .int 0, .int 0, .ref m57, .ref m58])), (m1, .inl (k1, 4, .inl (upd (upd (upd (upd (fun _ => 0) 0 (-1)) 1 (-1)) 2 (-1)) 3 (-1))))] U.heap ∧ va_K (dC, dI) vwCl [(k1, .int)] U ∧ va_D (fun _ => True) [(h0, .inr (12, [.int 0, .ref m1, .ref m2, .ref m3, .ref m4, .ref m5, .int 0, .int 0, .int 0, .int 0, .int 0, .long 0, .int 0, .int 0, .int 0, .int (-1), .ref m16, .ref m17, .ref m18, .ref m19, .ref m20, .ref m21, .ref m22, .ref m23, .int 0, .int 0, .int 0, .ref m27, .ref m28, .ref m29, .ref m30, .ref m31, .ref m32, .ref m33, .ref m34, .ref m35, .ref m36, .ref m37, .ref m38, .ref m39, .ref m40, .ref m41, .ref m42, .int 0, .int 0, .int 0, .ref m46, .int 0, .int 0, .int 0, .int 0, .int 0, .int 0, .ref m53, .int 0, .int 0, .int 0, .ref m57, .ref m58])), (m1, .inl (k1, 4, .inl (upd (upd (upd (upd (fun _ => 0) 0 (-1)) 1 (-1)) 2 (-1)) 3 (-1))))])) (va_Qi (fun (r : Int32) (_ : Unit) => (r = (-2) ∧ p1.toInt64 < (0 : Int64)) ∨ (r = (-2) ∧ ¬ p1.toInt64 < (0 : Int64) ∧ (3 : Int64) < p1.toInt64) ∨ (r = (-6) ∧ ¬ p1.toInt64 < (0 : Int64) ∧ ¬ (3 : Int64) < p1.toInt64)) (fun (_ : Unit) (_ : State) => True) (va_A [(h0, .inr (12, [.int 0, .ref m1, .ref m2, .ref m3, .ref m4, .ref m5, .int 0, .int 0, .int 0, .int 0, .int 0, .long 0, .int 0, .int 0, .int 0, .int (-1), .ref m16, .ref m17, .ref m18, .ref m19, .ref m20, .ref m21, .ref m22, .ref m23, .int 0, .int 0, .int 0, .ref m27, .ref m28, .ref m29, .ref m30, .ref m31, .ref m32, .ref m33, .ref m34, .ref m35, .ref m36, .ref m37, .ref m38, .ref m39, .ref m40, .ref m41, .ref m42, .int 0, .int 0, .int 0, .ref m46, .int 0, .int 0, .int 0, .int 0, .int 0, .int 0, .ref m53, .int 0, .int 0, .int 0, .ref m57, .ref m58])), (m1, .inl (k1, 4, .inl (upd (upd (upd (upd (fun _ => 0) 0 (-1)) 1 (-1)) 2 (-1)) 3 (-1))))] sz)) 0 0 (va_A [(h0, .inr (12, [.int 0, .ref m1, .ref m2, .ref m3, .ref m4, .ref m5, .int 0, .int 0, .int 0, .int 0, .int 0, .long 0, .int 0, .int 0, .int 0, .int (-1), .ref m16, .ref m17, .ref m18, .ref m19, .ref m20, .ref m21, .ref m22, .ref m23, .int 0, .int 0, .int 0, .ref m27, .ref m28, .ref m29, .ref m30, .ref m31, .ref m32, .ref m33, .ref m34, .ref m35, .ref m36, .ref m37, .ref m38, .ref m39, .ref m40, .ref m41, .ref m42, .int 0, .int 0, .int 0, .ref m46, .int 0, .int 0, .int 0, .int 0, .int 0, .int 0, .ref m53, .int 0, .int 0, .int 0, .ref m57, .ref m58])), (m1, .inl (k1, 4, .inl (upd (upd (upd (upd (fun _ => 0) 0 (-1)) 1 (-1)) 2 (-1)) 3 (-1))))] sz) := by
  refine Met.ofW (cc := cX12_write) (maxL := 5) (ret := (some .int)) (by decide) rfl ?_
  intro p e s m args below meth c s₁ B hml hv
  obtain ⟨rfl, hsz, hP, hK, hD0⟩ := hv
  have hx := B.exec
  have hb := B.bytes
  have hr := B.returns
  have hts := atoms_spec (ws := wk_f_X12_write) B.pre
  have hown : s.vm.findClass RX12 = some m.cls := findClass_of_methodNamed B.named
  have hlocks := B.notSynchronized
  subst hsz
  have hD := hD0.self (sz := s.heap.size)
  generalize hAe : va_A [(h0, .inr (12, [.int 0, .ref m1, .ref m2, .ref m3, .ref m4, .ref m5, .int 0, .int 0, .int 0, .int 0, .int 0, .long 0, .int 0, .int 0, .int 0, .int (-1), .ref m16, .ref m17, .ref m18, .ref m19, .ref m20, .ref m21, .ref m22, .ref m23, .int 0, .int 0, .int 0, .ref m27, .ref m28, .ref m29, .ref m30, .ref m31, .ref m32, .ref m33, .ref m34, .ref m35, .ref m36, .ref m37, .ref m38, .ref m39, .ref m40, .ref m41, .ref m42, .int 0, .int 0, .int 0, .ref m46, .int 0, .int 0, .int 0, .int 0, .int 0, .int 0, .ref m53, .int 0, .int 0, .int 0, .ref m57, .ref m58])), (m1, .inl (k1, 4, .inl (upd (upd (upd (upd (fun _ => 0) 0 (-1)) 1 (-1)) 2 (-1)) 3 (-1))))] s.heap.size = A at hD ⊢
  have hA : ∀ q : Nat, s.heap.size ≤ q → A q := fun q h => by rw [← hAe]; exact Or.inr h
  have hS : va_S A s.heap s.heap [] := va_S.rf
  have hP : va_P (dC, dI) vwCl [(h0, .inr (12, [.int 0, .ref m1, .ref m2, .ref m3, .ref m4, .ref m5, .int 0, .int 0, .int 0, .int 0, .int 0, .long 0, .int 0, .int 0, .int 0, .int (-1), .ref m16, .ref m17, .ref m18, .ref m19, .ref m20, .ref m21, .ref m22, .ref m23, .int 0, .int 0, .int 0, .ref m27, .ref m28, .ref m29, .ref m30, .ref m31, .ref m32, .ref m33, .ref m34, .ref m35, .ref m36, .ref m37, .ref m38, .ref m39, .ref m40, .ref m41, .ref m42, .int 0, .int 0, .int 0, .ref m46, .int 0, .int 0, .int 0, .int 0, .int 0, .int 0, .ref m53, .int 0, .int 0, .int 0, .ref m57, .ref m58])), (m1, .inl (k1, 4, .inl (upd (upd (upd (upd (fun _ => 0) 0 (-1)) 1 (-1)) 2 (-1)) 3 (-1))))] s.heap := hP
  have hl := lv_entry ([.ref h0, .int p1, .int p2, .long p3]) (n := 5) (Nat.le_of_ble_eq_true rfl)
  rw [lg_entry_eq]
  generalize (lg_sl ([.ref h0, .int p1, .int p2, .long p3]) ++ List.replicate (5 - (lg_sl ([.ref h0, .int p1, .int p2, .long p3])).length) Slot.unset).toArray = ls at hl ⊢
  have hl : lv_has ls 5 [(0, .ref h0), (1, .int p1), (2, .int p2), (3, .long p3)] := hl
  refine lv_aload_n hx hb dX12_write_0 rfl (lv_at hl 0 rfl) ?_
  refine lv_iconst (v := 0) hx hb dX12_write_1 (by decide) ?_
  refine va_put (D := (dC, dI)) (ci := 12) (v := .int 0) (ty := .int) (C := RX12) (T := TX12) (N := 59) hx hb hts (fun w h => List.mem_cons_of_mem _ (List.mem_append_right _ (List.mem_append_left _ h))) tyX12 tyX12_ok nmX12 hown hK hP hD hS 0 rfl rfl 0 (by decide) (hts (.fieldLink RX12 116 "SagMemoryModel" "thrown" "I") (wl_mem 0 rfl)) (fun _ h9 => h9) rfl (by decide +kernel) rfl rfl (Nat.le_of_ble_eq_true rfl) dX12_write_2 (fun H locs hP hD hS => ?_)
  have hP : va_P (dC, dI) vwCl [(h0, .inr (12, [.int 0, .ref m1, .ref m2, .ref m3, .ref m4, .ref m5, .int 0, .int 0, .int 0, .int 0, .int 0, .long 0, .int 0, .int 0, .int 0, .int (-1), .ref m16, .ref m17, .ref m18, .ref m19, .ref m20, .ref m21, .ref m22, .ref m23, .int 0, .int 0, .int 0, .ref m27, .ref m28, .ref m29, .ref m30, .ref m31, .ref m32, .ref m33, .ref m34, .ref m35, .ref m36, .ref m37, .ref m38, .ref m39, .ref m40, .ref m41, .ref m42, .int 0, .int 0, .int 0, .ref m46, .int 0, .int 0, .int 0, .int 0, .int 0, .int 0, .ref m53, .int 0, .int 0, .int 0, .ref m57, .ref m58])), (m1, .inl (k1, 4, .inl (upd (upd (upd (upd (fun _ => 0) 0 (-1)) 1 (-1)) 2 (-1)) 3 (-1))))] H := hP
  have hD : va_D A [(h0, .inr (12, [.int 0, .ref m1, .ref m2, .ref m3, .ref m4, .ref m5, .int 0, .int 0, .int 0, .int 0, .int 0, .long 0, .int 0, .int 0, .int 0, .int (-1), .ref m16, .ref m17, .ref m18, .ref m19, .ref m20, .ref m21, .ref m22, .ref m23, .int 0, .int 0, .int 0, .ref m27, .ref m28, .ref m29, .ref m30, .ref m31, .ref m32, .ref m33, .ref m34, .ref m35, .ref m36, .ref m37, .ref m38, .ref m39, .ref m40, .ref m41, .ref m42, .int 0, .int 0, .int 0, .ref m46, .int 0, .int 0, .int 0, .int 0, .int 0, .int 0, .ref m53, .int 0, .int 0, .int 0, .ref m57, .ref m58])), (m1, .inl (k1, 4, .inl (upd (upd (upd (upd (fun _ => 0) 0 (-1)) 1 (-1)) 2 (-1)) 3 (-1))))] := hD
  refine lv_iload_n hx hb dX12_write_5 rfl (lv_at hl 1 rfl) ?_
  have hPc := hP.sub (ws' := []) [] rfl
  have hKc := hK.sub (tys' := []) [] rfl
  refine vp_callSi (va_Run.run (va_runS (As := [.int p1]) (rest := []) ⟨hx, hb, hml, hown, hts⟩ (f_X12_isSlot l dC dI p1) (va_cwS 1 hts (gk_S (wl_mem 1 rfl) (wl_mem 2 rfl) (wl_mem 3 rfl) (fun w h => List.mem_cons_of_mem _ (List.mem_append_right _ (List.mem_append_right _ (List.mem_append_left _ h)))) wkg_f_X12_isSlot) rfl rfl rfl (by decide +kernel) ⟨Nat.le_of_ble_eq_true rfl, Nat.le_of_ble_eq_true rfl⟩) ⟨fun a U g mk q => by obtain ⟨q0, qP, qK⟩ := q; exact ⟨q0, qP, va_K.moved (u := U) (U := U.calling g mk a) (Vm.Alike.refl U.vm) qK⟩, fun U hU hW => ⟨rfl, by rw [hU]; exact hPc, va_K.moved hW.alike hKc⟩⟩ rfl rfl hl.1 rfl (lv_room (Nat.le_of_ble_eq_true rfl)) dX12_write_6 ⟨Nat.le_of_ble_eq_true rfl, Nat.le_of_ble_eq_true rfl⟩)) (fun rz2 hz1 => ?_)
  rcases hz1 with ⟨rfl, cz3⟩ | ⟨rfl, cz4, cz5⟩ | ⟨rfl, cz6, cz7⟩
  · skip
    refine lv_if_ne (tgt := 15) hx hb dX12_write_9 (by decide) (fun cz8 => ?_) (fun cz8 => ?_)
    · skip
      exact absurd cz8 (by decide)
    · skip
      refine lv_bipush (v := (-2)) hx hb dX12_write_12 (by decide) ?_
      exact W.iret (v := (-2)) hx hb hr (fun t ht hW => ⟨⟨(-2), (), rfl, Or.inl ⟨rfl, cz3⟩, trivial⟩, hS.F ht⟩) hS.2.2 dX12_write_14
  · skip
    refine lv_if_ne (tgt := 15) hx hb dX12_write_9 (by decide) (fun cz9 => ?_) (fun cz9 => ?_)
    · skip
      exact absurd cz9 (by decide)
    · skip
      refine lv_bipush (v := (-2)) hx hb dX12_write_12 (by decide) ?_
      exact W.iret (v := (-2)) hx hb hr (fun t ht hW => ⟨⟨(-2), (), rfl, Or.inr (Or.inl ⟨rfl, cz4, cz5⟩), trivial⟩, hS.F ht⟩) hS.2.2 dX12_write_14
  · skip
    refine lv_if_ne (tgt := 15) hx hb dX12_write_9 (by decide) (fun cz10 => ?_) (fun cz10 => ?_)
    · skip
      refine lv_aload_n hx hb dX12_write_15 rfl (lv_at hl 0 rfl) ?_
      refine va_get (D := (dC, dI)) (ci := 12) (v := .ref m1) (C := RX12) (T := TX12) (N := 59) hx hb hts (fun w h => List.mem_cons_of_mem _ (List.mem_append_right _ (List.mem_append_left _ h))) hown hK hP 0 rfl rfl 1 (by decide) (hts (.fieldLink RX12 7 "SagMemoryModel" "width" "[I") (wl_mem 4 rfl)) (fun _ h9 => h9) rfl dX12_write_16 ?_
      refine lv_iload_n hx hb dX12_write_19 rfl (lv_at hl 1 rfl) ?_
      have z0 : ¬ p1.toInt < (0 : Int) := by intro h9; apply cz6; rw [zi_ltL]; simp only [Int32.toInt_toInt64]; exact h9
      have z1 : ¬ (3 : Int) < p1.toInt := by intro h9; apply cz7; rw [zi_ltL]; simp only [Int32.toInt_toInt64]; exact h9
      rcases (show p1 = 0 ∨ p1 = 1 ∨ p1 = 2 ∨ p1 = 3 by simp only [zi_eq]; show p1.toInt = 0 ∨ p1.toInt = 1 ∨ p1.toInt = 2 ∨ p1.toInt = 3; omega) with rfl | rfl | rfl | rfl
      · skip
        refine va_iald hx hb hK hP 1 0 rfl rfl (by unfold vp_in; decide) dX12_write_20 ?_
        refine W.eq (g2 := F0 m 21 ls [.int (-1)]) rfl ?_
        refine lv_iconst (v := (-1)) hx hb dX12_write_21 (by decide) ?_
        refine lv_icmp_ne (tgt := 28) hx hb dX12_write_22 (by decide) (fun cz11 => ?_) (fun cz11 => ?_)
        · skip
          exact absurd cz11 (by decide)
        · skip
          refine lv_bipush (v := (-6)) hx hb dX12_write_25 (by decide) ?_
          exact W.iret (v := (-6)) hx hb hr (fun t ht hW => ⟨⟨(-6), (), rfl, Or.inr (Or.inr (⟨rfl, cz6, cz7⟩)), trivial⟩, hS.F ht⟩) hS.2.2 dX12_write_27
      · skip
        refine va_iald hx hb hK hP 1 0 rfl rfl (by unfold vp_in; decide) dX12_write_20 ?_
        refine W.eq (g2 := F0 m 21 ls [.int (-1)]) rfl ?_
        refine lv_iconst (v := (-1)) hx hb dX12_write_21 (by decide) ?_
        refine lv_icmp_ne (tgt := 28) hx hb dX12_write_22 (by decide) (fun cz12 => ?_) (fun cz12 => ?_)
        · skip
          exact absurd cz12 (by decide)
        · skip
          refine lv_bipush (v := (-6)) hx hb dX12_write_25 (by decide) ?_
          exact W.iret (v := (-6)) hx hb hr (fun t ht hW => ⟨⟨(-6), (), rfl, Or.inr (Or.inr (⟨rfl, cz6, cz7⟩)), trivial⟩, hS.F ht⟩) hS.2.2 dX12_write_27
      · skip
        refine va_iald hx hb hK hP 1 0 rfl rfl (by unfold vp_in; decide) dX12_write_20 ?_
        refine W.eq (g2 := F0 m 21 ls [.int (-1)]) rfl ?_
        refine lv_iconst (v := (-1)) hx hb dX12_write_21 (by decide) ?_
        refine lv_icmp_ne (tgt := 28) hx hb dX12_write_22 (by decide) (fun cz13 => ?_) (fun cz13 => ?_)
        · skip
          exact absurd cz13 (by decide)
        · skip
          refine lv_bipush (v := (-6)) hx hb dX12_write_25 (by decide) ?_
          exact W.iret (v := (-6)) hx hb hr (fun t ht hW => ⟨⟨(-6), (), rfl, Or.inr (Or.inr (⟨rfl, cz6, cz7⟩)), trivial⟩, hS.F ht⟩) hS.2.2 dX12_write_27
      · skip
        refine va_iald hx hb hK hP 1 0 rfl rfl (by unfold vp_in; decide) dX12_write_20 ?_
        refine W.eq (g2 := F0 m 21 ls [.int (-1)]) rfl ?_
        refine lv_iconst (v := (-1)) hx hb dX12_write_21 (by decide) ?_
        refine lv_icmp_ne (tgt := 28) hx hb dX12_write_22 (by decide) (fun cz14 => ?_) (fun cz14 => ?_)
        · skip
          exact absurd cz14 (by decide)
        · skip
          refine lv_bipush (v := (-6)) hx hb dX12_write_25 (by decide) ?_
          exact W.iret (v := (-6)) hx hb hr (fun t ht hW => ⟨⟨(-6), (), rfl, Or.inr (Or.inr (⟨rfl, cz6, cz7⟩)), trivial⟩, hS.F ht⟩) hS.2.2 dX12_write_27
    · skip
      exact absurd cz10 (by decide)
def wk_f_X12_paste : List Cond := .code yX12_paste cX12_paste 7 (some .int) :: ([.fieldLink RX12 116 "SagMemoryModel" "thrown" "I", .methodLink RX12 125 yX12_isSlot, .static yX12_isSlot, .initialized RX12, .fieldLink RX12 7 "SagMemoryModel" "width" "[I"] ++ (wsX120 ++ (wk_f_X12_isSlot ++ [])))
theorem wkg_f_X12_paste : wk_f_X12_paste.all goodWord = true := by decide +kernel
set_option maxHeartbeats 4000000 in
set_option maxRecDepth 100000 in
theorem f_X12_paste (l : Launch) (dC : Nat → ClassId) (dI : Nat → Nat → Nat) (sz : Nat) (h0 : Nat) (m1 : Nat) (m2 : Nat) (m3 : Nat) (m4 : Nat) (m5 : Nat) (m16 : Nat) (m17 : Nat) (m18 : Nat) (m19 : Nat) (m20 : Nat) (m21 : Nat) (m22 : Nat) (m23 : Nat) (m27 : Nat) (m28 : Nat) (m29 : Nat) (m30 : Nat) (m31 : Nat) (m32 : Nat) (m33 : Nat) (m34 : Nat) (m35 : Nat) (m36 : Nat) (m37 : Nat) (m38 : Nat) (m39 : Nat) (m40 : Nat) (m41 : Nat) (m42 : Nat) (m46 : Nat) (m53 : Nat) (m57 : Nat) (m58 : Nat) (k1 : ClassId) (p1 : Int32) (p2 : Int32) (p3 : Int32) (p4 : Int32) (p5 : Int32) : Met l yX12_paste wk_f_X12_paste ({ frames := 2, cells := 0, slots := 0, locals := 45 }) (va_Pc [.ref h0, .int p1, .int p2, .int p3, .int p4, .int p5] (fun U => U.heap.size = sz ∧ va_P (dC, dI) vwCl [(h0, .inr (12, [.int 0, .ref m1, .ref m2, .ref m3, .ref m4, .ref m5, .int 0, .int 0, .int 0, .int 0, .int 0, .long 0, .int 0, .int 0, .int 0, .int (-1), .ref m16, .ref m17, .ref m18, .ref m19, .ref m20, .ref m21, .ref m22, .ref m23, .int 0, .int 0, .int 0, .ref m27, .ref m28, .ref m29, .ref m30, .ref m31, .ref m32, .ref m33, .ref m34, .ref m35, .ref m36, .ref m37, .ref m38, .ref m39, .ref m40, .ref m41, .ref m42, .int 0, .int 0, .int 0, .ref m46, .int 0, .int 0, .int 0, .int 0, .int 0, .int 0, .ref m53, .int 0, .int 0, .int 0, .ref m57, .ref m58])), (m1, .inl (k1, 4, .inl (upd (upd (upd (upd (fun _ => 0) 0 (-1)) 1 (-1)) 2 (-1)) 3 (-1))))] U.heap ∧ va_K (dC, dI) vwCl [(k1, .int)] U ∧ va_D (fun _ => True) [(h0, .inr (12, [.int 0, .ref m1, .ref m2, .ref m3, .ref m4, .ref m5, .int 0, .int 0, .int 0, .int 0, .int 0, .long 0, .int 0, .int 0, .int 0, .int (-1), .ref m16, .ref m17, .ref m18, .ref m19, .ref m20, .ref m21, .ref m22, .ref m23, .int 0, .int 0, .int 0, .ref m27, .ref m28, .ref m29, .ref m30, .ref m31, .ref m32, .ref m33, .ref m34, .ref m35, .ref m36, .ref m37, .ref m38, .ref m39, .ref m40, .ref m41, .ref m42, .int 0, .int 0, .int 0, .ref m46, .int 0, .int 0, .int 0, .int 0, .int 0, .int 0, .ref m53, .int 0, .int 0, .int 0, .ref m57, .ref m58])), (m1, .inl (k1, 4, .inl (upd (upd (upd (upd (fun _ => 0) 0 (-1)) 1 (-1)) 2 (-1)) 3 (-1))))])) (va_Qi (fun (r : Int32) (_ : Unit) => (r = (-2) ∧ p1.toInt64 < (0 : Int64)) ∨ (r = (-2) ∧ ¬ p1.toInt64 < (0 : Int64) ∧ (3 : Int64) < p1.toInt64) ∨ (r = (-2) ∧ ¬ p1.toInt64 < (0 : Int64) ∧ ¬ (3 : Int64) < p1.toInt64 ∧ p3.toInt64 < (0 : Int64)) ∨ (r = (-2) ∧ ¬ p1.toInt64 < (0 : Int64) ∧ ¬ (3 : Int64) < p1.toInt64 ∧ ¬ p3.toInt64 < (0 : Int64) ∧ (3 : Int64) < p3.toInt64) ∨ (r = (-6) ∧ ¬ p1.toInt64 < (0 : Int64) ∧ ¬ (3 : Int64) < p1.toInt64 ∧ ¬ p3.toInt64 < (0 : Int64) ∧ ¬ (3 : Int64) < p3.toInt64)) (fun (_ : Unit) (_ : State) => True) (va_A [(h0, .inr (12, [.int 0, .ref m1, .ref m2, .ref m3, .ref m4, .ref m5, .int 0, .int 0, .int 0, .int 0, .int 0, .long 0, .int 0, .int 0, .int 0, .int (-1), .ref m16, .ref m17, .ref m18, .ref m19, .ref m20, .ref m21, .ref m22, .ref m23, .int 0, .int 0, .int 0, .ref m27, .ref m28, .ref m29, .ref m30, .ref m31, .ref m32, .ref m33, .ref m34, .ref m35, .ref m36, .ref m37, .ref m38, .ref m39, .ref m40, .ref m41, .ref m42, .int 0, .int 0, .int 0, .ref m46, .int 0, .int 0, .int 0, .int 0, .int 0, .int 0, .ref m53, .int 0, .int 0, .int 0, .ref m57, .ref m58])), (m1, .inl (k1, 4, .inl (upd (upd (upd (upd (fun _ => 0) 0 (-1)) 1 (-1)) 2 (-1)) 3 (-1))))] sz)) 0 0 (va_A [(h0, .inr (12, [.int 0, .ref m1, .ref m2, .ref m3, .ref m4, .ref m5, .int 0, .int 0, .int 0, .int 0, .int 0, .long 0, .int 0, .int 0, .int 0, .int (-1), .ref m16, .ref m17, .ref m18, .ref m19, .ref m20, .ref m21, .ref m22, .ref m23, .int 0, .int 0, .int 0, .ref m27, .ref m28, .ref m29, .ref m30, .ref m31, .ref m32, .ref m33, .ref m34, .ref m35, .ref m36, .ref m37, .ref m38, .ref m39, .ref m40, .ref m41, .ref m42, .int 0, .int 0, .int 0, .ref m46, .int 0, .int 0, .int 0, .int 0, .int 0, .int 0, .ref m53, .int 0, .int 0, .int 0, .ref m57, .ref m58])), (m1, .inl (k1, 4, .inl (upd (upd (upd (upd (fun _ => 0) 0 (-1)) 1 (-1)) 2 (-1)) 3 (-1))))] sz) := by
  refine Met.ofW (cc := cX12_paste) (maxL := 7) (ret := (some .int)) (by decide) rfl ?_
  intro p e s m args below meth c s₁ B hml hv
  obtain ⟨rfl, hsz, hP, hK, hD0⟩ := hv
  have hx := B.exec
  have hb := B.bytes
  have hr := B.returns
  have hts := atoms_spec (ws := wk_f_X12_paste) B.pre
  have hown : s.vm.findClass RX12 = some m.cls := findClass_of_methodNamed B.named
  have hlocks := B.notSynchronized
  subst hsz
  have hD := hD0.self (sz := s.heap.size)
  generalize hAe : va_A [(h0, .inr (12, [.int 0, .ref m1, .ref m2, .ref m3, .ref m4, .ref m5, .int 0, .int 0, .int 0, .int 0, .int 0, .long 0, .int 0, .int 0, .int 0, .int (-1), .ref m16, .ref m17, .ref m18, .ref m19, .ref m20, .ref m21, .ref m22, .ref m23, .int 0, .int 0, .int 0, .ref m27, .ref m28, .ref m29, .ref m30, .ref m31, .ref m32, .ref m33, .ref m34, .ref m35, .ref m36, .ref m37, .ref m38, .ref m39, .ref m40, .ref m41, .ref m42, .int 0, .int 0, .int 0, .ref m46, .int 0, .int 0, .int 0, .int 0, .int 0, .int 0, .ref m53, .int 0, .int 0, .int 0, .ref m57, .ref m58])), (m1, .inl (k1, 4, .inl (upd (upd (upd (upd (fun _ => 0) 0 (-1)) 1 (-1)) 2 (-1)) 3 (-1))))] s.heap.size = A at hD ⊢
  have hA : ∀ q : Nat, s.heap.size ≤ q → A q := fun q h => by rw [← hAe]; exact Or.inr h
  have hS : va_S A s.heap s.heap [] := va_S.rf
  have hP : va_P (dC, dI) vwCl [(h0, .inr (12, [.int 0, .ref m1, .ref m2, .ref m3, .ref m4, .ref m5, .int 0, .int 0, .int 0, .int 0, .int 0, .long 0, .int 0, .int 0, .int 0, .int (-1), .ref m16, .ref m17, .ref m18, .ref m19, .ref m20, .ref m21, .ref m22, .ref m23, .int 0, .int 0, .int 0, .ref m27, .ref m28, .ref m29, .ref m30, .ref m31, .ref m32, .ref m33, .ref m34, .ref m35, .ref m36, .ref m37, .ref m38, .ref m39, .ref m40, .ref m41, .ref m42, .int 0, .int 0, .int 0, .ref m46, .int 0, .int 0, .int 0, .int 0, .int 0, .int 0, .ref m53, .int 0, .int 0, .int 0, .ref m57, .ref m58])), (m1, .inl (k1, 4, .inl (upd (upd (upd (upd (fun _ => 0) 0 (-1)) 1 (-1)) 2 (-1)) 3 (-1))))] s.heap := hP
  have hl := lv_entry ([.ref h0, .int p1, .int p2, .int p3, .int p4, .int p5]) (n := 7) (Nat.le_of_ble_eq_true rfl)
  rw [lg_entry_eq]
  generalize (lg_sl ([.ref h0, .int p1, .int p2, .int p3, .int p4, .int p5]) ++ List.replicate (7 - (lg_sl ([.ref h0, .int p1, .int p2, .int p3, .int p4, .int p5])).length) Slot.unset).toArray = ls at hl ⊢
  have hl : lv_has ls 7 [(0, .ref h0), (1, .int p1), (2, .int p2), (3, .int p3), (4, .int p4), (5, .int p5)] := hl
  refine lv_aload_n hx hb dX12_paste_0 rfl (lv_at hl 0 rfl) ?_
  refine lv_iconst (v := 0) hx hb dX12_paste_1 (by decide) ?_
  refine va_put (D := (dC, dI)) (ci := 12) (v := .int 0) (ty := .int) (C := RX12) (T := TX12) (N := 59) hx hb hts (fun w h => List.mem_cons_of_mem _ (List.mem_append_right _ (List.mem_append_left _ h))) tyX12 tyX12_ok nmX12 hown hK hP hD hS 0 rfl rfl 0 (by decide) (hts (.fieldLink RX12 116 "SagMemoryModel" "thrown" "I") (wl_mem 0 rfl)) (fun _ h9 => h9) rfl (by decide +kernel) rfl rfl (Nat.le_of_ble_eq_true rfl) dX12_paste_2 (fun H locs hP hD hS => ?_)
  have hP : va_P (dC, dI) vwCl [(h0, .inr (12, [.int 0, .ref m1, .ref m2, .ref m3, .ref m4, .ref m5, .int 0, .int 0, .int 0, .int 0, .int 0, .long 0, .int 0, .int 0, .int 0, .int (-1), .ref m16, .ref m17, .ref m18, .ref m19, .ref m20, .ref m21, .ref m22, .ref m23, .int 0, .int 0, .int 0, .ref m27, .ref m28, .ref m29, .ref m30, .ref m31, .ref m32, .ref m33, .ref m34, .ref m35, .ref m36, .ref m37, .ref m38, .ref m39, .ref m40, .ref m41, .ref m42, .int 0, .int 0, .int 0, .ref m46, .int 0, .int 0, .int 0, .int 0, .int 0, .int 0, .ref m53, .int 0, .int 0, .int 0, .ref m57, .ref m58])), (m1, .inl (k1, 4, .inl (upd (upd (upd (upd (fun _ => 0) 0 (-1)) 1 (-1)) 2 (-1)) 3 (-1))))] H := hP
  have hD : va_D A [(h0, .inr (12, [.int 0, .ref m1, .ref m2, .ref m3, .ref m4, .ref m5, .int 0, .int 0, .int 0, .int 0, .int 0, .long 0, .int 0, .int 0, .int 0, .int (-1), .ref m16, .ref m17, .ref m18, .ref m19, .ref m20, .ref m21, .ref m22, .ref m23, .int 0, .int 0, .int 0, .ref m27, .ref m28, .ref m29, .ref m30, .ref m31, .ref m32, .ref m33, .ref m34, .ref m35, .ref m36, .ref m37, .ref m38, .ref m39, .ref m40, .ref m41, .ref m42, .int 0, .int 0, .int 0, .ref m46, .int 0, .int 0, .int 0, .int 0, .int 0, .int 0, .ref m53, .int 0, .int 0, .int 0, .ref m57, .ref m58])), (m1, .inl (k1, 4, .inl (upd (upd (upd (upd (fun _ => 0) 0 (-1)) 1 (-1)) 2 (-1)) 3 (-1))))] := hD
  refine lv_iload_n hx hb dX12_paste_5 rfl (lv_at hl 1 rfl) ?_
  have hPc := hP.sub (ws' := []) [] rfl
  have hKc := hK.sub (tys' := []) [] rfl
  refine vp_callSi (va_Run.run (va_runS (As := [.int p1]) (rest := []) ⟨hx, hb, hml, hown, hts⟩ (f_X12_isSlot l dC dI p1) (va_cwS 1 hts (gk_S (wl_mem 1 rfl) (wl_mem 2 rfl) (wl_mem 3 rfl) (fun w h => List.mem_cons_of_mem _ (List.mem_append_right _ (List.mem_append_right _ (List.mem_append_left _ h)))) wkg_f_X12_isSlot) rfl rfl rfl (by decide +kernel) ⟨Nat.le_of_ble_eq_true rfl, Nat.le_of_ble_eq_true rfl⟩) ⟨fun a U g mk q => by obtain ⟨q0, qP, qK⟩ := q; exact ⟨q0, qP, va_K.moved (u := U) (U := U.calling g mk a) (Vm.Alike.refl U.vm) qK⟩, fun U hU hW => ⟨rfl, by rw [hU]; exact hPc, va_K.moved hW.alike hKc⟩⟩ rfl rfl hl.1 rfl (lv_room (Nat.le_of_ble_eq_true rfl)) dX12_paste_6 ⟨Nat.le_of_ble_eq_true rfl, Nat.le_of_ble_eq_true rfl⟩)) (fun rz2 hz1 => ?_)
  rcases hz1 with ⟨rfl, cz3⟩ | ⟨rfl, cz4, cz5⟩ | ⟨rfl, cz6, cz7⟩
  · skip
    refine lv_if_eq (tgt := 19) hx hb dX12_paste_9 (by decide) (fun cz8 => ?_) (fun cz8 => ?_)
    · skip
      refine lv_bipush (v := (-2)) hx hb dX12_paste_19 (by decide) ?_
      exact W.iret (v := (-2)) hx hb hr (fun t ht hW => ⟨⟨(-2), (), rfl, Or.inl ⟨rfl, cz3⟩, trivial⟩, hS.F ht⟩) hS.2.2 dX12_paste_21
    · skip
      exact absurd cz8 (by decide)
  · skip
    refine lv_if_eq (tgt := 19) hx hb dX12_paste_9 (by decide) (fun cz9 => ?_) (fun cz9 => ?_)
    · skip
      refine lv_bipush (v := (-2)) hx hb dX12_paste_19 (by decide) ?_
      exact W.iret (v := (-2)) hx hb hr (fun t ht hW => ⟨⟨(-2), (), rfl, Or.inr (Or.inl ⟨rfl, cz4, cz5⟩), trivial⟩, hS.F ht⟩) hS.2.2 dX12_paste_21
    · skip
      exact absurd cz9 (by decide)
  · skip
    refine lv_if_eq (tgt := 19) hx hb dX12_paste_9 (by decide) (fun cz10 => ?_) (fun cz10 => ?_)
    · skip
      exact absurd cz10 (by decide)
    · skip
      refine lv_iload_n hx hb dX12_paste_12 rfl (lv_at hl 3 rfl) ?_
      have hPc := hP.sub (ws' := []) [] rfl
      have hKc := hK.sub (tys' := []) [] rfl
      refine vp_callSi (va_Run.run (va_runS (As := [.int p3]) (rest := []) ⟨hx, hb, hml, hown, hts⟩ (f_X12_isSlot l dC dI p3) (va_cwS 1 hts (gk_S (wl_mem 1 rfl) (wl_mem 2 rfl) (wl_mem 3 rfl) (fun w h => List.mem_cons_of_mem _ (List.mem_append_right _ (List.mem_append_right _ (List.mem_append_left _ h)))) wkg_f_X12_isSlot) rfl rfl rfl (by decide +kernel) ⟨Nat.le_of_ble_eq_true rfl, Nat.le_of_ble_eq_true rfl⟩) ⟨fun a U g mk q => by obtain ⟨q0, qP, qK⟩ := q; exact ⟨q0, qP, va_K.moved (u := U) (U := U.calling g mk a) (Vm.Alike.refl U.vm) qK⟩, fun U hU hW => ⟨rfl, by rw [hU]; exact hPc, va_K.moved hW.alike hKc⟩⟩ rfl rfl hl.1 rfl (lv_room (Nat.le_of_ble_eq_true rfl)) dX12_paste_13 ⟨Nat.le_of_ble_eq_true rfl, Nat.le_of_ble_eq_true rfl⟩)) (fun rz12 hz11 => ?_)
      rcases hz11 with ⟨rfl, cz13⟩ | ⟨rfl, cz14, cz15⟩ | ⟨rfl, cz16, cz17⟩
      · skip
        refine lv_if_ne (tgt := 22) hx hb dX12_paste_16 (by decide) (fun cz18 => ?_) (fun cz18 => ?_)
        · skip
          exact absurd cz18 (by decide)
        · skip
          refine lv_bipush (v := (-2)) hx hb dX12_paste_19 (by decide) ?_
          exact W.iret (v := (-2)) hx hb hr (fun t ht hW => ⟨⟨(-2), (), rfl, Or.inr (Or.inr (Or.inl ⟨rfl, cz6, cz7, cz13⟩)), trivial⟩, hS.F ht⟩) hS.2.2 dX12_paste_21
      · skip
        refine lv_if_ne (tgt := 22) hx hb dX12_paste_16 (by decide) (fun cz19 => ?_) (fun cz19 => ?_)
        · skip
          exact absurd cz19 (by decide)
        · skip
          refine lv_bipush (v := (-2)) hx hb dX12_paste_19 (by decide) ?_
          exact W.iret (v := (-2)) hx hb hr (fun t ht hW => ⟨⟨(-2), (), rfl, Or.inr (Or.inr (Or.inr (Or.inl ⟨rfl, cz6, cz7, cz14, cz15⟩))), trivial⟩, hS.F ht⟩) hS.2.2 dX12_paste_21
      · skip
        refine lv_if_ne (tgt := 22) hx hb dX12_paste_16 (by decide) (fun cz20 => ?_) (fun cz20 => ?_)
        · skip
          refine lv_aload_n hx hb dX12_paste_22 rfl (lv_at hl 0 rfl) ?_
          refine va_get (D := (dC, dI)) (ci := 12) (v := .ref m1) (C := RX12) (T := TX12) (N := 59) hx hb hts (fun w h => List.mem_cons_of_mem _ (List.mem_append_right _ (List.mem_append_left _ h))) hown hK hP 0 rfl rfl 1 (by decide) (hts (.fieldLink RX12 7 "SagMemoryModel" "width" "[I") (wl_mem 4 rfl)) (fun _ h9 => h9) rfl dX12_paste_23 ?_
          refine lv_iload_n hx hb dX12_paste_26 rfl (lv_at hl 1 rfl) ?_
          have z0 : ¬ p1.toInt < (0 : Int) := by intro h9; apply cz6; rw [zi_ltL]; simp only [Int32.toInt_toInt64]; exact h9
          have z1 : ¬ (3 : Int) < p1.toInt := by intro h9; apply cz7; rw [zi_ltL]; simp only [Int32.toInt_toInt64]; exact h9
          rcases (show p1 = 0 ∨ p1 = 1 ∨ p1 = 2 ∨ p1 = 3 by simp only [zi_eq]; show p1.toInt = 0 ∨ p1.toInt = 1 ∨ p1.toInt = 2 ∨ p1.toInt = 3; omega) with rfl | rfl | rfl | rfl
          · skip
            refine va_iald hx hb hK hP 1 0 rfl rfl (by unfold vp_in; decide) dX12_paste_27 ?_
            refine W.eq (g2 := F0 m 28 ls [.int (-1)]) rfl ?_
            refine lv_iconst (v := (-1)) hx hb dX12_paste_28 (by decide) ?_
            refine lv_icmp_eq (tgt := 42) hx hb dX12_paste_29 (by decide) (fun cz21 => ?_) (fun cz21 => ?_)
            · skip
              refine lv_bipush (v := (-6)) hx hb dX12_paste_42 (by decide) ?_
              exact W.iret (v := (-6)) hx hb hr (fun t ht hW => ⟨⟨(-6), (), rfl, Or.inr (Or.inr (Or.inr (Or.inr (⟨rfl, cz6, cz7, cz16, cz17⟩)))), trivial⟩, hS.F ht⟩) hS.2.2 dX12_paste_44
            · skip
              exact absurd cz21 (by decide)
          · skip
            refine va_iald hx hb hK hP 1 0 rfl rfl (by unfold vp_in; decide) dX12_paste_27 ?_
            refine W.eq (g2 := F0 m 28 ls [.int (-1)]) rfl ?_
            refine lv_iconst (v := (-1)) hx hb dX12_paste_28 (by decide) ?_
            refine lv_icmp_eq (tgt := 42) hx hb dX12_paste_29 (by decide) (fun cz22 => ?_) (fun cz22 => ?_)
            · skip
              refine lv_bipush (v := (-6)) hx hb dX12_paste_42 (by decide) ?_
              exact W.iret (v := (-6)) hx hb hr (fun t ht hW => ⟨⟨(-6), (), rfl, Or.inr (Or.inr (Or.inr (Or.inr (⟨rfl, cz6, cz7, cz16, cz17⟩)))), trivial⟩, hS.F ht⟩) hS.2.2 dX12_paste_44
            · skip
              exact absurd cz22 (by decide)
          · skip
            refine va_iald hx hb hK hP 1 0 rfl rfl (by unfold vp_in; decide) dX12_paste_27 ?_
            refine W.eq (g2 := F0 m 28 ls [.int (-1)]) rfl ?_
            refine lv_iconst (v := (-1)) hx hb dX12_paste_28 (by decide) ?_
            refine lv_icmp_eq (tgt := 42) hx hb dX12_paste_29 (by decide) (fun cz23 => ?_) (fun cz23 => ?_)
            · skip
              refine lv_bipush (v := (-6)) hx hb dX12_paste_42 (by decide) ?_
              exact W.iret (v := (-6)) hx hb hr (fun t ht hW => ⟨⟨(-6), (), rfl, Or.inr (Or.inr (Or.inr (Or.inr (⟨rfl, cz6, cz7, cz16, cz17⟩)))), trivial⟩, hS.F ht⟩) hS.2.2 dX12_paste_44
            · skip
              exact absurd cz23 (by decide)
          · skip
            refine va_iald hx hb hK hP 1 0 rfl rfl (by unfold vp_in; decide) dX12_paste_27 ?_
            refine W.eq (g2 := F0 m 28 ls [.int (-1)]) rfl ?_
            refine lv_iconst (v := (-1)) hx hb dX12_paste_28 (by decide) ?_
            refine lv_icmp_eq (tgt := 42) hx hb dX12_paste_29 (by decide) (fun cz24 => ?_) (fun cz24 => ?_)
            · skip
              refine lv_bipush (v := (-6)) hx hb dX12_paste_42 (by decide) ?_
              exact W.iret (v := (-6)) hx hb hr (fun t ht hW => ⟨⟨(-6), (), rfl, Or.inr (Or.inr (Or.inr (Or.inr (⟨rfl, cz6, cz7, cz16, cz17⟩)))), trivial⟩, hS.F ht⟩) hS.2.2 dX12_paste_44
            · skip
              exact absurd cz24 (by decide)
        · skip
          exact absurd cz20 (by decide)
def wk_f_X12_count : List Cond := .code yX12_count cX12_count 4 (some .int) :: ([.fieldLink RX12 116 "SagMemoryModel" "thrown" "I", .constantLong RX12 508 (7), .methodLink RX12 121 yX12_in, .static yX12_in, .initialized RX12, .fieldLink RX12 31 "SagMemoryModel" "lines" "[I", .fieldLink RX12 133 "SagMemoryModel" "taped" "I", .fieldLink RX12 7 "SagMemoryModel" "width" "[I", .fieldLink RX12 34 "SagMemoryModel" "has" "[I"] ++ (wsX120 ++ (wk_f_X12_in ++ [])))
theorem wkg_f_X12_count : wk_f_X12_count.all goodWord = true := by decide +kernel
set_option maxHeartbeats 4000000 in
set_option maxRecDepth 100000 in
theorem f_X12_count (l : Launch) (dC : Nat → ClassId) (dI : Nat → Nat → Nat) (sz : Nat) (h0 : Nat) (m1 : Nat) (m2 : Nat) (m3 : Nat) (m4 : Nat) (m5 : Nat) (m16 : Nat) (m17 : Nat) (m18 : Nat) (m19 : Nat) (m20 : Nat) (m21 : Nat) (m22 : Nat) (m23 : Nat) (m27 : Nat) (m28 : Nat) (m29 : Nat) (m30 : Nat) (m31 : Nat) (m32 : Nat) (m33 : Nat) (m34 : Nat) (m35 : Nat) (m36 : Nat) (m37 : Nat) (m38 : Nat) (m39 : Nat) (m40 : Nat) (m41 : Nat) (m42 : Nat) (m46 : Nat) (m53 : Nat) (m57 : Nat) (m58 : Nat) (k17 : ClassId) (k16 : ClassId) (k1 : ClassId) (p1 : Int32) : Met l yX12_count wk_f_X12_count ({ frames := 1, cells := 0, slots := 0, locals := 25 }) (va_Pc [.ref h0, .int p1] (fun U => U.heap.size = sz ∧ va_P (dC, dI) vwCl [(h0, .inr (12, [.int 0, .ref m1, .ref m2, .ref m3, .ref m4, .ref m5, .int 0, .int 0, .int 0, .int 0, .int 0, .long 0, .int 0, .int 0, .int 0, .int (-1), .ref m16, .ref m17, .ref m18, .ref m19, .ref m20, .ref m21, .ref m22, .ref m23, .int 0, .int 0, .int 0, .ref m27, .ref m28, .ref m29, .ref m30, .ref m31, .ref m32, .ref m33, .ref m34, .ref m35, .ref m36, .ref m37, .ref m38, .ref m39, .ref m40, .ref m41, .ref m42, .int 0, .int 0, .int 0, .ref m46, .int 0, .int 0, .int 0, .int 0, .int 0, .int 0, .ref m53, .int 0, .int 0, .int 0, .ref m57, .ref m58])), (m17, .inl (k17, 40, .inl (fun _ => 0))), (m16, .inl (k16, 5, .inl (fun _ => 0))), (m1, .inl (k1, 4, .inl (upd (upd (upd (upd (fun _ => 0) 0 (-1)) 1 (-1)) 2 (-1)) 3 (-1))))] U.heap ∧ va_K (dC, dI) vwCl [(k17, .int), (k16, .int), (k1, .int)] U ∧ va_D (fun _ => True) [(h0, .inr (12, [.int 0, .ref m1, .ref m2, .ref m3, .ref m4, .ref m5, .int 0, .int 0, .int 0, .int 0, .int 0, .long 0, .int 0, .int 0, .int 0, .int (-1), .ref m16, .ref m17, .ref m18, .ref m19, .ref m20, .ref m21, .ref m22, .ref m23, .int 0, .int 0, .int 0, .ref m27, .ref m28, .ref m29, .ref m30, .ref m31, .ref m32, .ref m33, .ref m34, .ref m35, .ref m36, .ref m37, .ref m38, .ref m39, .ref m40, .ref m41, .ref m42, .int 0, .int 0, .int 0, .ref m46, .int 0, .int 0, .int 0, .int 0, .int 0, .int 0, .ref m53, .int 0, .int 0, .int 0, .ref m57, .ref m58])), (m17, .inl (k17, 40, .inl (fun _ => 0))), (m16, .inl (k16, 5, .inl (fun _ => 0))), (m1, .inl (k1, 4, .inl (upd (upd (upd (upd (fun _ => 0) 0 (-1)) 1 (-1)) 2 (-1)) 3 (-1))))])) (va_Qi (fun (r : Int32) (_ : Unit) => (r = (-1) ∧ p1.toInt64 < (0 : Int64) ∧ ¬ p1 = (8 : Int32) ∧ ¬ p1 = (9 : Int32) ∧ ¬ p1 = (10 : Int32)) ∨ (r = 0 ∧ ¬ p1.toInt64 < (0 : Int64) ∧ (7 : Int64) < p1.toInt64 ∧ p1 = (8 : Int32)) ∨ (r = 0 ∧ ¬ p1.toInt64 < (0 : Int64) ∧ (7 : Int64) < p1.toInt64 ∧ ¬ p1 = (8 : Int32) ∧ p1 = (9 : Int32)) ∨ (r = 0 ∧ ¬ p1.toInt64 < (0 : Int64) ∧ (7 : Int64) < p1.toInt64 ∧ ¬ p1 = (8 : Int32) ∧ ¬ p1 = (9 : Int32) ∧ p1 = (10 : Int32)) ∨ (r = (-1) ∧ ¬ p1.toInt64 < (0 : Int64) ∧ (7 : Int64) < p1.toInt64 ∧ ¬ p1 = (8 : Int32) ∧ ¬ p1 = (9 : Int32) ∧ ¬ p1 = (10 : Int32)) ∨ (r = 0 ∧ ¬ p1.toInt64 < (0 : Int64) ∧ ¬ (7 : Int64) < p1.toInt64)) (fun (_ : Unit) (_ : State) => True) (va_A [(h0, .inr (12, [.int 0, .ref m1, .ref m2, .ref m3, .ref m4, .ref m5, .int 0, .int 0, .int 0, .int 0, .int 0, .long 0, .int 0, .int 0, .int 0, .int (-1), .ref m16, .ref m17, .ref m18, .ref m19, .ref m20, .ref m21, .ref m22, .ref m23, .int 0, .int 0, .int 0, .ref m27, .ref m28, .ref m29, .ref m30, .ref m31, .ref m32, .ref m33, .ref m34, .ref m35, .ref m36, .ref m37, .ref m38, .ref m39, .ref m40, .ref m41, .ref m42, .int 0, .int 0, .int 0, .ref m46, .int 0, .int 0, .int 0, .int 0, .int 0, .int 0, .ref m53, .int 0, .int 0, .int 0, .ref m57, .ref m58])), (m17, .inl (k17, 40, .inl (fun _ => 0))), (m16, .inl (k16, 5, .inl (fun _ => 0))), (m1, .inl (k1, 4, .inl (upd (upd (upd (upd (fun _ => 0) 0 (-1)) 1 (-1)) 2 (-1)) 3 (-1))))] sz)) 0 0 (va_A [(h0, .inr (12, [.int 0, .ref m1, .ref m2, .ref m3, .ref m4, .ref m5, .int 0, .int 0, .int 0, .int 0, .int 0, .long 0, .int 0, .int 0, .int 0, .int (-1), .ref m16, .ref m17, .ref m18, .ref m19, .ref m20, .ref m21, .ref m22, .ref m23, .int 0, .int 0, .int 0, .ref m27, .ref m28, .ref m29, .ref m30, .ref m31, .ref m32, .ref m33, .ref m34, .ref m35, .ref m36, .ref m37, .ref m38, .ref m39, .ref m40, .ref m41, .ref m42, .int 0, .int 0, .int 0, .ref m46, .int 0, .int 0, .int 0, .int 0, .int 0, .int 0, .ref m53, .int 0, .int 0, .int 0, .ref m57, .ref m58])), (m17, .inl (k17, 40, .inl (fun _ => 0))), (m16, .inl (k16, 5, .inl (fun _ => 0))), (m1, .inl (k1, 4, .inl (upd (upd (upd (upd (fun _ => 0) 0 (-1)) 1 (-1)) 2 (-1)) 3 (-1))))] sz) := by
  refine Met.ofW (cc := cX12_count) (maxL := 4) (ret := (some .int)) (by decide) rfl ?_
  intro p e s m args below meth c s₁ B hml hv
  obtain ⟨rfl, hsz, hP, hK, hD0⟩ := hv
  have hx := B.exec
  have hb := B.bytes
  have hr := B.returns
  have hts := atoms_spec (ws := wk_f_X12_count) B.pre
  have hown : s.vm.findClass RX12 = some m.cls := findClass_of_methodNamed B.named
  have hlocks := B.notSynchronized
  subst hsz
  have hD := hD0.self (sz := s.heap.size)
  generalize hAe : va_A [(h0, .inr (12, [.int 0, .ref m1, .ref m2, .ref m3, .ref m4, .ref m5, .int 0, .int 0, .int 0, .int 0, .int 0, .long 0, .int 0, .int 0, .int 0, .int (-1), .ref m16, .ref m17, .ref m18, .ref m19, .ref m20, .ref m21, .ref m22, .ref m23, .int 0, .int 0, .int 0, .ref m27, .ref m28, .ref m29, .ref m30, .ref m31, .ref m32, .ref m33, .ref m34, .ref m35, .ref m36, .ref m37, .ref m38, .ref m39, .ref m40, .ref m41, .ref m42, .int 0, .int 0, .int 0, .ref m46, .int 0, .int 0, .int 0, .int 0, .int 0, .int 0, .ref m53, .int 0, .int 0, .int 0, .ref m57, .ref m58])), (m17, .inl (k17, 40, .inl (fun _ => 0))), (m16, .inl (k16, 5, .inl (fun _ => 0))), (m1, .inl (k1, 4, .inl (upd (upd (upd (upd (fun _ => 0) 0 (-1)) 1 (-1)) 2 (-1)) 3 (-1))))] s.heap.size = A at hD ⊢
  have hA : ∀ q : Nat, s.heap.size ≤ q → A q := fun q h => by rw [← hAe]; exact Or.inr h
  have hS : va_S A s.heap s.heap [] := va_S.rf
  have hP : va_P (dC, dI) vwCl [(h0, .inr (12, [.int 0, .ref m1, .ref m2, .ref m3, .ref m4, .ref m5, .int 0, .int 0, .int 0, .int 0, .int 0, .long 0, .int 0, .int 0, .int 0, .int (-1), .ref m16, .ref m17, .ref m18, .ref m19, .ref m20, .ref m21, .ref m22, .ref m23, .int 0, .int 0, .int 0, .ref m27, .ref m28, .ref m29, .ref m30, .ref m31, .ref m32, .ref m33, .ref m34, .ref m35, .ref m36, .ref m37, .ref m38, .ref m39, .ref m40, .ref m41, .ref m42, .int 0, .int 0, .int 0, .ref m46, .int 0, .int 0, .int 0, .int 0, .int 0, .int 0, .ref m53, .int 0, .int 0, .int 0, .ref m57, .ref m58])), (m17, .inl (k17, 40, .inl (fun _ => 0))), (m16, .inl (k16, 5, .inl (fun _ => 0))), (m1, .inl (k1, 4, .inl (upd (upd (upd (upd (fun _ => 0) 0 (-1)) 1 (-1)) 2 (-1)) 3 (-1))))] s.heap := hP
  have hl := lv_entry ([.ref h0, .int p1]) (n := 4) (Nat.le_of_ble_eq_true rfl)
  rw [lg_entry_eq]
  generalize (lg_sl ([.ref h0, .int p1]) ++ List.replicate (4 - (lg_sl ([.ref h0, .int p1])).length) Slot.unset).toArray = ls at hl ⊢
  have hl : lv_has ls 4 [(0, .ref h0), (1, .int p1)] := hl
  refine lv_aload_n hx hb dX12_count_0 rfl (lv_at hl 0 rfl) ?_
  refine lv_iconst (v := 0) hx hb dX12_count_1 (by decide) ?_
  refine va_put (D := (dC, dI)) (ci := 12) (v := .int 0) (ty := .int) (C := RX12) (T := TX12) (N := 59) hx hb hts (fun w h => List.mem_cons_of_mem _ (List.mem_append_right _ (List.mem_append_left _ h))) tyX12 tyX12_ok nmX12 hown hK hP hD hS 0 rfl rfl 0 (by decide) (hts (.fieldLink RX12 116 "SagMemoryModel" "thrown" "I") (wl_mem 0 rfl)) (fun _ h9 => h9) rfl (by decide +kernel) rfl rfl (Nat.le_of_ble_eq_true rfl) dX12_count_2 (fun H locs hP hD hS => ?_)
  have hP : va_P (dC, dI) vwCl [(h0, .inr (12, [.int 0, .ref m1, .ref m2, .ref m3, .ref m4, .ref m5, .int 0, .int 0, .int 0, .int 0, .int 0, .long 0, .int 0, .int 0, .int 0, .int (-1), .ref m16, .ref m17, .ref m18, .ref m19, .ref m20, .ref m21, .ref m22, .ref m23, .int 0, .int 0, .int 0, .ref m27, .ref m28, .ref m29, .ref m30, .ref m31, .ref m32, .ref m33, .ref m34, .ref m35, .ref m36, .ref m37, .ref m38, .ref m39, .ref m40, .ref m41, .ref m42, .int 0, .int 0, .int 0, .ref m46, .int 0, .int 0, .int 0, .int 0, .int 0, .int 0, .ref m53, .int 0, .int 0, .int 0, .ref m57, .ref m58])), (m17, .inl (k17, 40, .inl (fun _ => 0))), (m16, .inl (k16, 5, .inl (fun _ => 0))), (m1, .inl (k1, 4, .inl (upd (upd (upd (upd (fun _ => 0) 0 (-1)) 1 (-1)) 2 (-1)) 3 (-1))))] H := hP
  have hD : va_D A [(h0, .inr (12, [.int 0, .ref m1, .ref m2, .ref m3, .ref m4, .ref m5, .int 0, .int 0, .int 0, .int 0, .int 0, .long 0, .int 0, .int 0, .int 0, .int (-1), .ref m16, .ref m17, .ref m18, .ref m19, .ref m20, .ref m21, .ref m22, .ref m23, .int 0, .int 0, .int 0, .ref m27, .ref m28, .ref m29, .ref m30, .ref m31, .ref m32, .ref m33, .ref m34, .ref m35, .ref m36, .ref m37, .ref m38, .ref m39, .ref m40, .ref m41, .ref m42, .int 0, .int 0, .int 0, .ref m46, .int 0, .int 0, .int 0, .int 0, .int 0, .int 0, .ref m53, .int 0, .int 0, .int 0, .ref m57, .ref m58])), (m17, .inl (k17, 40, .inl (fun _ => 0))), (m16, .inl (k16, 5, .inl (fun _ => 0))), (m1, .inl (k1, 4, .inl (upd (upd (upd (upd (fun _ => 0) 0 (-1)) 1 (-1)) 2 (-1)) 3 (-1))))] := hD
  refine lv_iload_n hx hb dX12_count_5 rfl (lv_at hl 1 rfl) ?_
  refine lv_i2l hx hb dX12_count_6 rfl ?_
  refine lv_lconst (v := 0) hx hb dX12_count_7 (by decide) ?_
  refine lv_ldc2 (v := 7) hx hb hown (hts (.constantLong RX12 508 (7)) (wl_mem 1 rfl)) dX12_count_8 ?_
  have hPc := hP.sub (ws' := []) [] rfl
  have hKc := hK.sub (tys' := []) [] rfl
  refine vp_callSi (va_Run.run (va_runS (As := [.long p1.toInt64, .long 0, .long 7]) (rest := []) ⟨hx, hb, hml, hown, hts⟩ (f_X12_in l dC dI p1.toInt64 0 7) (va_cwS 3 hts (gk_S (wl_mem 2 rfl) (wl_mem 3 rfl) (wl_mem 4 rfl) (fun w h => List.mem_cons_of_mem _ (List.mem_append_right _ (List.mem_append_right _ (List.mem_append_left _ h)))) wkg_f_X12_in) rfl rfl rfl (by decide +kernel) ⟨Nat.le_of_ble_eq_true rfl, Nat.le_of_ble_eq_true rfl⟩) ⟨fun a U g mk q => by obtain ⟨q0, qP, qK⟩ := q; exact ⟨q0, qP, va_K.moved (u := U) (U := U.calling g mk a) (Vm.Alike.refl U.vm) qK⟩, fun U hU hW => ⟨rfl, by rw [hU]; exact hPc, va_K.moved hW.alike hKc⟩⟩ rfl rfl hl.1 rfl (lv_room (Nat.le_of_ble_eq_true rfl)) dX12_count_11 ⟨Nat.le_of_ble_eq_true rfl, Nat.le_of_ble_eq_true rfl⟩)) (fun rz2 hz1 => ?_)
  rcases hz1 with ⟨rfl, cz3⟩ | ⟨rfl, cz4, cz5⟩ | ⟨rfl, cz6, cz7⟩
  · skip
    refine lv_if_eq (tgt := 24) hx hb dX12_count_14 (by decide) (fun cz8 => ?_) (fun cz8 => ?_)
    · skip
      refine lv_iconst (v := 0) hx hb dX12_count_24 (by decide) ?_
      refine lv_istore_n (lv' := [(2, .int 0), (0, .ref h0), (1, .int p1)]) hx hb dX12_count_25 rfl hl (by decide) rfl (fun ls hl => ?_)
      refine lv_iload_n hx hb dX12_count_26 rfl (lv_at hl 2 rfl) ?_
      by_cases cz9 : p1 = 8
      · skip
        have z0 : p1.toInt < (0 : Int) := by have h9 := zi_ltL.mp cz3; simp only [Int32.toInt_toInt64] at h9; exact h9
        have z2 : p1.toInt = (8 : Int) := zi_eq.mp cz9
        omega
      · skip
        by_cases cz10 : p1 = 9
        · skip
          have z0 : p1.toInt < (0 : Int) := by have h9 := zi_ltL.mp cz3; simp only [Int32.toInt_toInt64] at h9; exact h9
          have z2 : ¬ p1.toInt = (8 : Int) := fun h9 => cz9 (zi_eq.mpr h9)
          have z3 : p1.toInt = (9 : Int) := zi_eq.mp cz10
          omega
        · skip
          by_cases cz11 : p1 = 10
          · skip
            have z0 : p1.toInt < (0 : Int) := by have h9 := zi_ltL.mp cz3; simp only [Int32.toInt_toInt64] at h9; exact h9
            have z2 : ¬ p1.toInt = (8 : Int) := fun h9 => cz9 (zi_eq.mpr h9)
            have z3 : ¬ p1.toInt = (9 : Int) := fun h9 => cz10 (zi_eq.mpr h9)
            have z4 : p1.toInt = (10 : Int) := zi_eq.mp cz11
            omega
          · skip
            have z0 : ¬ p1.toInt = (8 : Int) := fun h9 => cz9 (zi_eq.mpr h9)
            have z1 : ¬ p1.toInt = (9 : Int) := fun h9 => cz10 (zi_eq.mpr h9)
            have z2 : ¬ p1.toInt = (10 : Int) := fun h9 => cz11 (zi_eq.mpr h9)
            refine lv_tableOut (tgt := 97) hx hb dX12_count_27 (by omega) (by decide) ?_
            refine lv_iconst (v := (-1)) hx hb dX12_count_97 (by decide) ?_
            exact W.iret (v := (-1)) hx hb hr (fun t ht hW => ⟨⟨(-1), (), rfl, Or.inl ⟨rfl, cz3, cz9, cz10, cz11⟩, trivial⟩, hS.F ht⟩) hS.2.2 dX12_count_98
    · skip
      exact absurd cz8 (by decide)
  · skip
    refine lv_if_eq (tgt := 24) hx hb dX12_count_14 (by decide) (fun cz12 => ?_) (fun cz12 => ?_)
    · skip
      refine lv_iconst (v := 0) hx hb dX12_count_24 (by decide) ?_
      refine lv_istore_n (lv' := [(2, .int 0), (0, .ref h0), (1, .int p1)]) hx hb dX12_count_25 rfl hl (by decide) rfl (fun ls hl => ?_)
      refine lv_iload_n hx hb dX12_count_26 rfl (lv_at hl 2 rfl) ?_
      by_cases cz13 : p1 = 8
      · skip
        refine lv_tableIn (off := 25) (tgt := 52) hx hb dX12_count_27 (by rw [cz13]; decide) (by rw [cz13]; decide) (by rw [cz13]; rfl) (by decide) ?_
        refine lv_aload_n hx hb dX12_count_52 rfl (lv_at hl 1 rfl) ?_
        refine va_get (D := (dC, dI)) (ci := 12) (v := .ref m16) (C := RX12) (T := TX12) (N := 59) hx hb hts (fun w h => List.mem_cons_of_mem _ (List.mem_append_right _ (List.mem_append_left _ h))) hown hK hP 0 rfl rfl 16 (by decide) (hts (.fieldLink RX12 31 "SagMemoryModel" "lines" "[I") (wl_mem 5 rfl)) (fun _ h9 => h9) rfl dX12_count_53 ?_
        refine lv_iconst (v := 0) hx hb dX12_count_56 (by decide) ?_
        refine va_iald hx hb hK hP 2 1 rfl rfl (by unfold vp_in; decide) dX12_count_57 ?_
        refine W.eq (g2 := F0 m 58 ls [.int 0]) rfl ?_
        exact W.iret (v := 0) hx hb hr (fun t ht hW => ⟨⟨0, (), rfl, Or.inr (Or.inl ⟨rfl, cz4, cz5, cz13⟩), trivial⟩, hS.F ht⟩) hS.2.2 dX12_count_58
      · skip
        by_cases cz14 : p1 = 9
        · skip
          refine lv_tableIn (off := 32) (tgt := 59) hx hb dX12_count_27 (by rw [cz14]; decide) (by rw [cz14]; decide) (by rw [cz14]; rfl) (by decide) ?_
          refine lv_aload_n hx hb dX12_count_59 rfl (lv_at hl 1 rfl) ?_
          refine va_get (D := (dC, dI)) (ci := 12) (v := .int 0) (C := RX12) (T := TX12) (N := 59) hx hb hts (fun w h => List.mem_cons_of_mem _ (List.mem_append_right _ (List.mem_append_left _ h))) hown hK hP 0 rfl rfl 6 (by decide) (hts (.fieldLink RX12 133 "SagMemoryModel" "taped" "I") (wl_mem 6 rfl)) (fun _ h9 => h9) rfl dX12_count_60 ?_
          exact W.iret (v := 0) hx hb hr (fun t ht hW => ⟨⟨0, (), rfl, Or.inr (Or.inr (Or.inl ⟨rfl, cz4, cz5, cz13, cz14⟩)), trivial⟩, hS.F ht⟩) hS.2.2 dX12_count_63
        · skip
          by_cases cz15 : p1 = 10
          · skip
            refine lv_tableIn (off := 37) (tgt := 64) hx hb dX12_count_27 (by rw [cz15]; decide) (by rw [cz15]; decide) (by rw [cz15]; rfl) (by decide) ?_
            refine lv_iconst (v := 0) hx hb dX12_count_64 (by decide) ?_
            refine lv_istore_n (lv' := [(3, .int 0), (2, .int 0), (0, .ref h0), (1, .int p1)]) hx hb dX12_count_65 rfl hl (by decide) rfl (fun ls hl => ?_)
            refine lv_iload_n hx hb dX12_count_66 rfl (lv_at hl 0 rfl) ?_
            refine lv_iconst (v := 4) hx hb dX12_count_67 (by decide) ?_
            refine lv_icmp_ge (tgt := 95) hx hb dX12_count_68 (by decide) (fun cz16 => ?_) (fun cz16 => ?_)
            · skip
              exact absurd cz16 (by decide)
            · skip
              refine lv_iload_n hx hb dX12_count_71 rfl (lv_at hl 1 rfl) ?_
              refine lv_aload_n hx hb dX12_count_72 rfl (lv_at hl 2 rfl) ?_
              refine va_get (D := (dC, dI)) (ci := 12) (v := .ref m1) (C := RX12) (T := TX12) (N := 59) hx hb hts (fun w h => List.mem_cons_of_mem _ (List.mem_append_right _ (List.mem_append_left _ h))) hown hK hP 0 rfl rfl 1 (by decide) (hts (.fieldLink RX12 7 "SagMemoryModel" "width" "[I") (wl_mem 7 rfl)) (fun _ h9 => h9) rfl dX12_count_73 ?_
              refine lv_iload_n hx hb dX12_count_76 rfl (lv_at hl 0 rfl) ?_
              refine va_iald hx hb hK hP 3 2 rfl rfl (by unfold vp_in; decide) dX12_count_77 ?_
              refine W.eq (g2 := F0 m 78 ls [.int (-1), .int 0]) rfl ?_
              refine lv_iconst (v := (-1)) hx hb dX12_count_78 (by decide) ?_
              refine lv_icmp_ne (tgt := 86) hx hb dX12_count_79 (by decide) (fun cz17 => ?_) (fun cz17 => ?_)
              · skip
                exact absurd cz17 (by decide)
              · skip
                refine lv_iconst (v := 0) hx hb dX12_count_82 (by decide) ?_
                refine lv_goto (tgt := 87) hx hb dX12_count_83 (by decide) ?_
                refine lv_iadd hx hb dX12_count_87 ?_
                refine lv_topi (fun xz18 exz18 => ?_)
                obtain rfl : xz18 = 0 := exz18.trans (by decide)
                refine lv_istore_n (lv' := [(2, .int 0), (3, .int 0), (0, .ref h0), (1, .int p1)]) hx hb dX12_count_88 rfl hl (by decide) rfl (fun ls hl => ?_)
                refine lv_iinc (v := 1) (lv' := [(3, .int 1), (2, .int 0), (0, .ref h0), (1, .int p1)]) hx hb dX12_count_89 hl (k := 1) rfl (by decide) (by decide) rfl (fun ls hl => ?_)
                refine lv_goto (tgt := 66) hx hb dX12_count_92 (by decide) ?_
                refine lv_iload_n hx hb dX12_count_66 rfl (lv_at hl 0 rfl) ?_
                refine lv_iconst (v := 4) hx hb dX12_count_67 (by decide) ?_
                refine lv_icmp_ge (tgt := 95) hx hb dX12_count_68 (by decide) (fun cz19 => ?_) (fun cz19 => ?_)
                · skip
                  exact absurd cz19 (by decide)
                · skip
                  refine lv_iload_n hx hb dX12_count_71 rfl (lv_at hl 1 rfl) ?_
                  refine lv_aload_n hx hb dX12_count_72 rfl (lv_at hl 2 rfl) ?_
                  refine va_get (D := (dC, dI)) (ci := 12) (v := .ref m1) (C := RX12) (T := TX12) (N := 59) hx hb hts (fun w h => List.mem_cons_of_mem _ (List.mem_append_right _ (List.mem_append_left _ h))) hown hK hP 0 rfl rfl 1 (by decide) (hts (.fieldLink RX12 7 "SagMemoryModel" "width" "[I") (wl_mem 7 rfl)) (fun _ h9 => h9) rfl dX12_count_73 ?_
                  refine lv_iload_n hx hb dX12_count_76 rfl (lv_at hl 0 rfl) ?_
                  refine va_iald hx hb hK hP 3 2 rfl rfl (by unfold vp_in; decide) dX12_count_77 ?_
                  refine W.eq (g2 := F0 m 78 ls [.int (-1), .int 0]) rfl ?_
                  refine lv_iconst (v := (-1)) hx hb dX12_count_78 (by decide) ?_
                  refine lv_icmp_ne (tgt := 86) hx hb dX12_count_79 (by decide) (fun cz20 => ?_) (fun cz20 => ?_)
                  · skip
                    exact absurd cz20 (by decide)
                  · skip
                    refine lv_iconst (v := 0) hx hb dX12_count_82 (by decide) ?_
                    refine lv_goto (tgt := 87) hx hb dX12_count_83 (by decide) ?_
                    refine lv_iadd hx hb dX12_count_87 ?_
                    refine lv_topi (fun xz21 exz21 => ?_)
                    obtain rfl : xz21 = 0 := exz21.trans (by decide)
                    refine lv_istore_n (lv' := [(2, .int 0), (3, .int 1), (0, .ref h0), (1, .int p1)]) hx hb dX12_count_88 rfl hl (by decide) rfl (fun ls hl => ?_)
                    refine lv_iinc (v := 2) (lv' := [(3, .int 2), (2, .int 0), (0, .ref h0), (1, .int p1)]) hx hb dX12_count_89 hl (k := 1) rfl (by decide) (by decide) rfl (fun ls hl => ?_)
                    refine lv_goto (tgt := 66) hx hb dX12_count_92 (by decide) ?_
                    refine lv_iload_n hx hb dX12_count_66 rfl (lv_at hl 0 rfl) ?_
                    refine lv_iconst (v := 4) hx hb dX12_count_67 (by decide) ?_
                    refine lv_icmp_ge (tgt := 95) hx hb dX12_count_68 (by decide) (fun cz22 => ?_) (fun cz22 => ?_)
                    · skip
                      exact absurd cz22 (by decide)
                    · skip
                      refine lv_iload_n hx hb dX12_count_71 rfl (lv_at hl 1 rfl) ?_
                      refine lv_aload_n hx hb dX12_count_72 rfl (lv_at hl 2 rfl) ?_
                      refine va_get (D := (dC, dI)) (ci := 12) (v := .ref m1) (C := RX12) (T := TX12) (N := 59) hx hb hts (fun w h => List.mem_cons_of_mem _ (List.mem_append_right _ (List.mem_append_left _ h))) hown hK hP 0 rfl rfl 1 (by decide) (hts (.fieldLink RX12 7 "SagMemoryModel" "width" "[I") (wl_mem 7 rfl)) (fun _ h9 => h9) rfl dX12_count_73 ?_
                      refine lv_iload_n hx hb dX12_count_76 rfl (lv_at hl 0 rfl) ?_
                      refine va_iald hx hb hK hP 3 2 rfl rfl (by unfold vp_in; decide) dX12_count_77 ?_
                      refine W.eq (g2 := F0 m 78 ls [.int (-1), .int 0]) rfl ?_
                      refine lv_iconst (v := (-1)) hx hb dX12_count_78 (by decide) ?_
                      refine lv_icmp_ne (tgt := 86) hx hb dX12_count_79 (by decide) (fun cz23 => ?_) (fun cz23 => ?_)
                      · skip
                        exact absurd cz23 (by decide)
                      · skip
                        refine lv_iconst (v := 0) hx hb dX12_count_82 (by decide) ?_
                        refine lv_goto (tgt := 87) hx hb dX12_count_83 (by decide) ?_
                        refine lv_iadd hx hb dX12_count_87 ?_
                        refine lv_topi (fun xz24 exz24 => ?_)
                        obtain rfl : xz24 = 0 := exz24.trans (by decide)
                        refine lv_istore_n (lv' := [(2, .int 0), (3, .int 2), (0, .ref h0), (1, .int p1)]) hx hb dX12_count_88 rfl hl (by decide) rfl (fun ls hl => ?_)
                        refine lv_iinc (v := 3) (lv' := [(3, .int 3), (2, .int 0), (0, .ref h0), (1, .int p1)]) hx hb dX12_count_89 hl (k := 1) rfl (by decide) (by decide) rfl (fun ls hl => ?_)
                        refine lv_goto (tgt := 66) hx hb dX12_count_92 (by decide) ?_
                        refine lv_iload_n hx hb dX12_count_66 rfl (lv_at hl 0 rfl) ?_
                        refine lv_iconst (v := 4) hx hb dX12_count_67 (by decide) ?_
                        refine lv_icmp_ge (tgt := 95) hx hb dX12_count_68 (by decide) (fun cz25 => ?_) (fun cz25 => ?_)
                        · skip
                          exact absurd cz25 (by decide)
                        · skip
                          refine lv_iload_n hx hb dX12_count_71 rfl (lv_at hl 1 rfl) ?_
                          refine lv_aload_n hx hb dX12_count_72 rfl (lv_at hl 2 rfl) ?_
                          refine va_get (D := (dC, dI)) (ci := 12) (v := .ref m1) (C := RX12) (T := TX12) (N := 59) hx hb hts (fun w h => List.mem_cons_of_mem _ (List.mem_append_right _ (List.mem_append_left _ h))) hown hK hP 0 rfl rfl 1 (by decide) (hts (.fieldLink RX12 7 "SagMemoryModel" "width" "[I") (wl_mem 7 rfl)) (fun _ h9 => h9) rfl dX12_count_73 ?_
                          refine lv_iload_n hx hb dX12_count_76 rfl (lv_at hl 0 rfl) ?_
                          refine va_iald hx hb hK hP 3 2 rfl rfl (by unfold vp_in; decide) dX12_count_77 ?_
                          refine W.eq (g2 := F0 m 78 ls [.int (-1), .int 0]) rfl ?_
                          refine lv_iconst (v := (-1)) hx hb dX12_count_78 (by decide) ?_
                          refine lv_icmp_ne (tgt := 86) hx hb dX12_count_79 (by decide) (fun cz26 => ?_) (fun cz26 => ?_)
                          · skip
                            exact absurd cz26 (by decide)
                          · skip
                            refine lv_iconst (v := 0) hx hb dX12_count_82 (by decide) ?_
                            refine lv_goto (tgt := 87) hx hb dX12_count_83 (by decide) ?_
                            refine lv_iadd hx hb dX12_count_87 ?_
                            refine lv_topi (fun xz27 exz27 => ?_)
                            obtain rfl : xz27 = 0 := exz27.trans (by decide)
                            refine lv_istore_n (lv' := [(2, .int 0), (3, .int 3), (0, .ref h0), (1, .int p1)]) hx hb dX12_count_88 rfl hl (by decide) rfl (fun ls hl => ?_)
                            refine lv_iinc (v := 4) (lv' := [(3, .int 4), (2, .int 0), (0, .ref h0), (1, .int p1)]) hx hb dX12_count_89 hl (k := 1) rfl (by decide) (by decide) rfl (fun ls hl => ?_)
                            refine lv_goto (tgt := 66) hx hb dX12_count_92 (by decide) ?_
                            refine lv_iload_n hx hb dX12_count_66 rfl (lv_at hl 0 rfl) ?_
                            refine lv_iconst (v := 4) hx hb dX12_count_67 (by decide) ?_
                            refine lv_icmp_ge (tgt := 95) hx hb dX12_count_68 (by decide) (fun cz28 => ?_) (fun cz28 => ?_)
                            · skip
                              refine lv_iload_n hx hb dX12_count_95 rfl (lv_at hl 1 rfl) ?_
                              exact W.iret (v := 0) hx hb hr (fun t ht hW => ⟨⟨0, (), rfl, Or.inr (Or.inr (Or.inr (Or.inl ⟨rfl, cz4, cz5, cz13, cz14, cz15⟩))), trivial⟩, hS.F ht⟩) hS.2.2 dX12_count_96
                            · skip
                              exact absurd cz28 (by decide)
          · skip
            have z0 : ¬ p1.toInt = (8 : Int) := fun h9 => cz13 (zi_eq.mpr h9)
            have z1 : ¬ p1.toInt = (9 : Int) := fun h9 => cz14 (zi_eq.mpr h9)
            have z2 : ¬ p1.toInt = (10 : Int) := fun h9 => cz15 (zi_eq.mpr h9)
            refine lv_tableOut (tgt := 97) hx hb dX12_count_27 (by omega) (by decide) ?_
            refine lv_iconst (v := (-1)) hx hb dX12_count_97 (by decide) ?_
            exact W.iret (v := (-1)) hx hb hr (fun t ht hW => ⟨⟨(-1), (), rfl, Or.inr (Or.inr (Or.inr (Or.inr (Or.inl ⟨rfl, cz4, cz5, cz13, cz14, cz15⟩)))), trivial⟩, hS.F ht⟩) hS.2.2 dX12_count_98
    · skip
      exact absurd cz12 (by decide)
  · skip
    refine lv_if_eq (tgt := 24) hx hb dX12_count_14 (by decide) (fun cz29 => ?_) (fun cz29 => ?_)
    · skip
      exact absurd cz29 (by decide)
    · skip
      refine lv_aload_n hx hb dX12_count_17 rfl (lv_at hl 0 rfl) ?_
      refine va_get (D := (dC, dI)) (ci := 12) (v := .ref m17) (C := RX12) (T := TX12) (N := 59) hx hb hts (fun w h => List.mem_cons_of_mem _ (List.mem_append_right _ (List.mem_append_left _ h))) hown hK hP 0 rfl rfl 17 (by decide) (hts (.fieldLink RX12 34 "SagMemoryModel" "has" "[I") (wl_mem 8 rfl)) (fun _ h9 => h9) rfl dX12_count_18 ?_
      refine lv_iload_n hx hb dX12_count_21 rfl (lv_at hl 1 rfl) ?_
      have z0 : ¬ p1.toInt < (0 : Int) := by intro h9; apply cz6; rw [zi_ltL]; simp only [Int32.toInt_toInt64]; exact h9
      have z1 : ¬ (7 : Int) < p1.toInt := by intro h9; apply cz7; rw [zi_ltL]; simp only [Int32.toInt_toInt64]; exact h9
      rcases (show p1 = 0 ∨ p1 = 1 ∨ p1 = 2 ∨ p1 = 3 ∨ p1 = 4 ∨ p1 = 5 ∨ p1 = 6 ∨ p1 = 7 by simp only [zi_eq]; show p1.toInt = 0 ∨ p1.toInt = 1 ∨ p1.toInt = 2 ∨ p1.toInt = 3 ∨ p1.toInt = 4 ∨ p1.toInt = 5 ∨ p1.toInt = 6 ∨ p1.toInt = 7; omega) with rfl | rfl | rfl | rfl | rfl | rfl | rfl | rfl
      · skip
        refine va_iald hx hb hK hP 1 0 rfl rfl (by unfold vp_in; decide) dX12_count_22 ?_
        refine W.eq (g2 := F0 m 23 ls [.int 0]) rfl ?_
        exact W.iret (v := 0) hx hb hr (fun t ht hW => ⟨⟨0, (), rfl, Or.inr (Or.inr (Or.inr (Or.inr (Or.inr (⟨rfl, cz6, cz7⟩))))), trivial⟩, hS.F ht⟩) hS.2.2 dX12_count_23
      · skip
        refine va_iald hx hb hK hP 1 0 rfl rfl (by unfold vp_in; decide) dX12_count_22 ?_
        refine W.eq (g2 := F0 m 23 ls [.int 0]) rfl ?_
        exact W.iret (v := 0) hx hb hr (fun t ht hW => ⟨⟨0, (), rfl, Or.inr (Or.inr (Or.inr (Or.inr (Or.inr (⟨rfl, cz6, cz7⟩))))), trivial⟩, hS.F ht⟩) hS.2.2 dX12_count_23
      · skip
        refine va_iald hx hb hK hP 1 0 rfl rfl (by unfold vp_in; decide) dX12_count_22 ?_
        refine W.eq (g2 := F0 m 23 ls [.int 0]) rfl ?_
        exact W.iret (v := 0) hx hb hr (fun t ht hW => ⟨⟨0, (), rfl, Or.inr (Or.inr (Or.inr (Or.inr (Or.inr (⟨rfl, cz6, cz7⟩))))), trivial⟩, hS.F ht⟩) hS.2.2 dX12_count_23
      · skip
        refine va_iald hx hb hK hP 1 0 rfl rfl (by unfold vp_in; decide) dX12_count_22 ?_
        refine W.eq (g2 := F0 m 23 ls [.int 0]) rfl ?_
        exact W.iret (v := 0) hx hb hr (fun t ht hW => ⟨⟨0, (), rfl, Or.inr (Or.inr (Or.inr (Or.inr (Or.inr (⟨rfl, cz6, cz7⟩))))), trivial⟩, hS.F ht⟩) hS.2.2 dX12_count_23
      · skip
        refine va_iald hx hb hK hP 1 0 rfl rfl (by unfold vp_in; decide) dX12_count_22 ?_
        refine W.eq (g2 := F0 m 23 ls [.int 0]) rfl ?_
        exact W.iret (v := 0) hx hb hr (fun t ht hW => ⟨⟨0, (), rfl, Or.inr (Or.inr (Or.inr (Or.inr (Or.inr (⟨rfl, cz6, cz7⟩))))), trivial⟩, hS.F ht⟩) hS.2.2 dX12_count_23
      · skip
        refine va_iald hx hb hK hP 1 0 rfl rfl (by unfold vp_in; decide) dX12_count_22 ?_
        refine W.eq (g2 := F0 m 23 ls [.int 0]) rfl ?_
        exact W.iret (v := 0) hx hb hr (fun t ht hW => ⟨⟨0, (), rfl, Or.inr (Or.inr (Or.inr (Or.inr (Or.inr (⟨rfl, cz6, cz7⟩))))), trivial⟩, hS.F ht⟩) hS.2.2 dX12_count_23
      · skip
        refine va_iald hx hb hK hP 1 0 rfl rfl (by unfold vp_in; decide) dX12_count_22 ?_
        refine W.eq (g2 := F0 m 23 ls [.int 0]) rfl ?_
        exact W.iret (v := 0) hx hb hr (fun t ht hW => ⟨⟨0, (), rfl, Or.inr (Or.inr (Or.inr (Or.inr (Or.inr (⟨rfl, cz6, cz7⟩))))), trivial⟩, hS.F ht⟩) hS.2.2 dX12_count_23
      · skip
        refine va_iald hx hb hK hP 1 0 rfl rfl (by unfold vp_in; decide) dX12_count_22 ?_
        refine W.eq (g2 := F0 m 23 ls [.int 0]) rfl ?_
        exact W.iret (v := 0) hx hb hr (fun t ht hW => ⟨⟨0, (), rfl, Or.inr (Or.inr (Or.inr (Or.inr (Or.inr (⟨rfl, cz6, cz7⟩))))), trivial⟩, hS.F ht⟩) hS.2.2 dX12_count_23
def wk_f_X12_back : List Cond := .code yX12_back cX12_back 2 (some .int) :: ([.fieldLink RX12 116 "SagMemoryModel" "thrown" "I", .constantLong RX12 345 (2), .methodLink RX12 121 yX12_in, .static yX12_in, .initialized RX12, .fieldLink RX12 52 "SagMemoryModel" "isKept" "[Z"] ++ (wsX120 ++ (wk_f_X12_in ++ [])))
theorem wkg_f_X12_back : wk_f_X12_back.all goodWord = true := by decide +kernel
set_option maxHeartbeats 4000000 in
set_option maxRecDepth 100000 in
theorem f_X12_back (l : Launch) (dC : Nat → ClassId) (dI : Nat → Nat → Nat) (sz : Nat) (h0 : Nat) (m1 : Nat) (m2 : Nat) (m3 : Nat) (m4 : Nat) (m5 : Nat) (m16 : Nat) (m17 : Nat) (m18 : Nat) (m19 : Nat) (m20 : Nat) (m21 : Nat) (m22 : Nat) (m23 : Nat) (m27 : Nat) (m28 : Nat) (m29 : Nat) (m30 : Nat) (m31 : Nat) (m32 : Nat) (m33 : Nat) (m34 : Nat) (m35 : Nat) (m36 : Nat) (m37 : Nat) (m38 : Nat) (m39 : Nat) (m40 : Nat) (m41 : Nat) (m42 : Nat) (m46 : Nat) (m53 : Nat) (m57 : Nat) (m58 : Nat) (k23 : ClassId) (p1 : Int32) : Met l yX12_back wk_f_X12_back ({ frames := 1, cells := 0, slots := 0, locals := 25 }) (va_Pc [.ref h0, .int p1] (fun U => U.heap.size = sz ∧ va_P (dC, dI) vwCl [(h0, .inr (12, [.int 0, .ref m1, .ref m2, .ref m3, .ref m4, .ref m5, .int 0, .int 0, .int 0, .int 0, .int 0, .long 0, .int 0, .int 0, .int 0, .int (-1), .ref m16, .ref m17, .ref m18, .ref m19, .ref m20, .ref m21, .ref m22, .ref m23, .int 0, .int 0, .int 0, .ref m27, .ref m28, .ref m29, .ref m30, .ref m31, .ref m32, .ref m33, .ref m34, .ref m35, .ref m36, .ref m37, .ref m38, .ref m39, .ref m40, .ref m41, .ref m42, .int 0, .int 0, .int 0, .ref m46, .int 0, .int 0, .int 0, .int 0, .int 0, .int 0, .ref m53, .int 0, .int 0, .int 0, .ref m57, .ref m58])), (m23, .inl (k23, 3, .inl (fun _ => 0)))] U.heap ∧ va_K (dC, dI) vwCl [(k23, .boolean)] U ∧ va_D (fun _ => True) [(h0, .inr (12, [.int 0, .ref m1, .ref m2, .ref m3, .ref m4, .ref m5, .int 0, .int 0, .int 0, .int 0, .int 0, .long 0, .int 0, .int 0, .int 0, .int (-1), .ref m16, .ref m17, .ref m18, .ref m19, .ref m20, .ref m21, .ref m22, .ref m23, .int 0, .int 0, .int 0, .ref m27, .ref m28, .ref m29, .ref m30, .ref m31, .ref m32, .ref m33, .ref m34, .ref m35, .ref m36, .ref m37, .ref m38, .ref m39, .ref m40, .ref m41, .ref m42, .int 0, .int 0, .int 0, .ref m46, .int 0, .int 0, .int 0, .int 0, .int 0, .int 0, .ref m53, .int 0, .int 0, .int 0, .ref m57, .ref m58])), (m23, .inl (k23, 3, .inl (fun _ => 0)))])) (va_Qi (fun (r : Int32) (_ : Unit) => (r = (-2) ∧ p1.toInt64 < (0 : Int64)) ∨ (r = (-2) ∧ ¬ p1.toInt64 < (0 : Int64) ∧ (2 : Int64) < p1.toInt64) ∨ (r = (-6) ∧ ¬ p1.toInt64 < (0 : Int64) ∧ ¬ (2 : Int64) < p1.toInt64)) (fun (_ : Unit) (_ : State) => True) (va_A [(h0, .inr (12, [.int 0, .ref m1, .ref m2, .ref m3, .ref m4, .ref m5, .int 0, .int 0, .int 0, .int 0, .int 0, .long 0, .int 0, .int 0, .int 0, .int (-1), .ref m16, .ref m17, .ref m18, .ref m19, .ref m20, .ref m21, .ref m22, .ref m23, .int 0, .int 0, .int 0, .ref m27, .ref m28, .ref m29, .ref m30, .ref m31, .ref m32, .ref m33, .ref m34, .ref m35, .ref m36, .ref m37, .ref m38, .ref m39, .ref m40, .ref m41, .ref m42, .int 0, .int 0, .int 0, .ref m46, .int 0, .int 0, .int 0, .int 0, .int 0, .int 0, .ref m53, .int 0, .int 0, .int 0, .ref m57, .ref m58])), (m23, .inl (k23, 3, .inl (fun _ => 0)))] sz)) 0 0 (va_A [(h0, .inr (12, [.int 0, .ref m1, .ref m2, .ref m3, .ref m4, .ref m5, .int 0, .int 0, .int 0, .int 0, .int 0, .long 0, .int 0, .int 0, .int 0, .int (-1), .ref m16, .ref m17, .ref m18, .ref m19, .ref m20, .ref m21, .ref m22, .ref m23, .int 0, .int 0, .int 0, .ref m27, .ref m28, .ref m29, .ref m30, .ref m31, .ref m32, .ref m33, .ref m34, .ref m35, .ref m36, .ref m37, .ref m38, .ref m39, .ref m40, .ref m41, .ref m42, .int 0, .int 0, .int 0, .ref m46, .int 0, .int 0, .int 0, .int 0, .int 0, .int 0, .ref m53, .int 0, .int 0, .int 0, .ref m57, .ref m58])), (m23, .inl (k23, 3, .inl (fun _ => 0)))] sz) := by
  refine Met.ofW (cc := cX12_back) (maxL := 2) (ret := (some .int)) (by decide) rfl ?_
  intro p e s m args below meth c s₁ B hml hv
  obtain ⟨rfl, hsz, hP, hK, hD0⟩ := hv
  have hx := B.exec
  have hb := B.bytes
  have hr := B.returns
  have hts := atoms_spec (ws := wk_f_X12_back) B.pre
  have hown : s.vm.findClass RX12 = some m.cls := findClass_of_methodNamed B.named
  have hlocks := B.notSynchronized
  subst hsz
  have hD := hD0.self (sz := s.heap.size)
  generalize hAe : va_A [(h0, .inr (12, [.int 0, .ref m1, .ref m2, .ref m3, .ref m4, .ref m5, .int 0, .int 0, .int 0, .int 0, .int 0, .long 0, .int 0, .int 0, .int 0, .int (-1), .ref m16, .ref m17, .ref m18, .ref m19, .ref m20, .ref m21, .ref m22, .ref m23, .int 0, .int 0, .int 0, .ref m27, .ref m28, .ref m29, .ref m30, .ref m31, .ref m32, .ref m33, .ref m34, .ref m35, .ref m36, .ref m37, .ref m38, .ref m39, .ref m40, .ref m41, .ref m42, .int 0, .int 0, .int 0, .ref m46, .int 0, .int 0, .int 0, .int 0, .int 0, .int 0, .ref m53, .int 0, .int 0, .int 0, .ref m57, .ref m58])), (m23, .inl (k23, 3, .inl (fun _ => 0)))] s.heap.size = A at hD ⊢
  have hA : ∀ q : Nat, s.heap.size ≤ q → A q := fun q h => by rw [← hAe]; exact Or.inr h
  have hS : va_S A s.heap s.heap [] := va_S.rf
  have hP : va_P (dC, dI) vwCl [(h0, .inr (12, [.int 0, .ref m1, .ref m2, .ref m3, .ref m4, .ref m5, .int 0, .int 0, .int 0, .int 0, .int 0, .long 0, .int 0, .int 0, .int 0, .int (-1), .ref m16, .ref m17, .ref m18, .ref m19, .ref m20, .ref m21, .ref m22, .ref m23, .int 0, .int 0, .int 0, .ref m27, .ref m28, .ref m29, .ref m30, .ref m31, .ref m32, .ref m33, .ref m34, .ref m35, .ref m36, .ref m37, .ref m38, .ref m39, .ref m40, .ref m41, .ref m42, .int 0, .int 0, .int 0, .ref m46, .int 0, .int 0, .int 0, .int 0, .int 0, .int 0, .ref m53, .int 0, .int 0, .int 0, .ref m57, .ref m58])), (m23, .inl (k23, 3, .inl (fun _ => 0)))] s.heap := hP
  have hl := lv_entry ([.ref h0, .int p1]) (n := 2) (Nat.le_of_ble_eq_true rfl)
  rw [lg_entry_eq]
  generalize (lg_sl ([.ref h0, .int p1]) ++ List.replicate (2 - (lg_sl ([.ref h0, .int p1])).length) Slot.unset).toArray = ls at hl ⊢
  have hl : lv_has ls 2 [(0, .ref h0), (1, .int p1)] := hl
  refine lv_aload_n hx hb dX12_back_0 rfl (lv_at hl 0 rfl) ?_
  refine lv_iconst (v := 0) hx hb dX12_back_1 (by decide) ?_
  refine va_put (D := (dC, dI)) (ci := 12) (v := .int 0) (ty := .int) (C := RX12) (T := TX12) (N := 59) hx hb hts (fun w h => List.mem_cons_of_mem _ (List.mem_append_right _ (List.mem_append_left _ h))) tyX12 tyX12_ok nmX12 hown hK hP hD hS 0 rfl rfl 0 (by decide) (hts (.fieldLink RX12 116 "SagMemoryModel" "thrown" "I") (wl_mem 0 rfl)) (fun _ h9 => h9) rfl (by decide +kernel) rfl rfl (Nat.le_of_ble_eq_true rfl) dX12_back_2 (fun H locs hP hD hS => ?_)
  have hP : va_P (dC, dI) vwCl [(h0, .inr (12, [.int 0, .ref m1, .ref m2, .ref m3, .ref m4, .ref m5, .int 0, .int 0, .int 0, .int 0, .int 0, .long 0, .int 0, .int 0, .int 0, .int (-1), .ref m16, .ref m17, .ref m18, .ref m19, .ref m20, .ref m21, .ref m22, .ref m23, .int 0, .int 0, .int 0, .ref m27, .ref m28, .ref m29, .ref m30, .ref m31, .ref m32, .ref m33, .ref m34, .ref m35, .ref m36, .ref m37, .ref m38, .ref m39, .ref m40, .ref m41, .ref m42, .int 0, .int 0, .int 0, .ref m46, .int 0, .int 0, .int 0, .int 0, .int 0, .int 0, .ref m53, .int 0, .int 0, .int 0, .ref m57, .ref m58])), (m23, .inl (k23, 3, .inl (fun _ => 0)))] H := hP
  have hD : va_D A [(h0, .inr (12, [.int 0, .ref m1, .ref m2, .ref m3, .ref m4, .ref m5, .int 0, .int 0, .int 0, .int 0, .int 0, .long 0, .int 0, .int 0, .int 0, .int (-1), .ref m16, .ref m17, .ref m18, .ref m19, .ref m20, .ref m21, .ref m22, .ref m23, .int 0, .int 0, .int 0, .ref m27, .ref m28, .ref m29, .ref m30, .ref m31, .ref m32, .ref m33, .ref m34, .ref m35, .ref m36, .ref m37, .ref m38, .ref m39, .ref m40, .ref m41, .ref m42, .int 0, .int 0, .int 0, .ref m46, .int 0, .int 0, .int 0, .int 0, .int 0, .int 0, .ref m53, .int 0, .int 0, .int 0, .ref m57, .ref m58])), (m23, .inl (k23, 3, .inl (fun _ => 0)))] := hD
  refine lv_iload_n hx hb dX12_back_5 rfl (lv_at hl 1 rfl) ?_
  refine lv_i2l hx hb dX12_back_6 rfl ?_
  refine lv_lconst (v := 0) hx hb dX12_back_7 (by decide) ?_
  refine lv_ldc2 (v := 2) hx hb hown (hts (.constantLong RX12 345 (2)) (wl_mem 1 rfl)) dX12_back_8 ?_
  have hPc := hP.sub (ws' := []) [] rfl
  have hKc := hK.sub (tys' := []) [] rfl
  refine vp_callSi (va_Run.run (va_runS (As := [.long p1.toInt64, .long 0, .long 2]) (rest := []) ⟨hx, hb, hml, hown, hts⟩ (f_X12_in l dC dI p1.toInt64 0 2) (va_cwS 3 hts (gk_S (wl_mem 2 rfl) (wl_mem 3 rfl) (wl_mem 4 rfl) (fun w h => List.mem_cons_of_mem _ (List.mem_append_right _ (List.mem_append_right _ (List.mem_append_left _ h)))) wkg_f_X12_in) rfl rfl rfl (by decide +kernel) ⟨Nat.le_of_ble_eq_true rfl, Nat.le_of_ble_eq_true rfl⟩) ⟨fun a U g mk q => by obtain ⟨q0, qP, qK⟩ := q; exact ⟨q0, qP, va_K.moved (u := U) (U := U.calling g mk a) (Vm.Alike.refl U.vm) qK⟩, fun U hU hW => ⟨rfl, by rw [hU]; exact hPc, va_K.moved hW.alike hKc⟩⟩ rfl rfl hl.1 rfl (lv_room (Nat.le_of_ble_eq_true rfl)) dX12_back_11 ⟨Nat.le_of_ble_eq_true rfl, Nat.le_of_ble_eq_true rfl⟩)) (fun rz2 hz1 => ?_)
  rcases hz1 with ⟨rfl, cz3⟩ | ⟨rfl, cz4, cz5⟩ | ⟨rfl, cz6, cz7⟩
  · skip
    refine lv_if_ne (tgt := 20) hx hb dX12_back_14 (by decide) (fun cz8 => ?_) (fun cz8 => ?_)
    · skip
      exact absurd cz8 (by decide)
    · skip
      refine lv_bipush (v := (-2)) hx hb dX12_back_17 (by decide) ?_
      exact W.iret (v := (-2)) hx hb hr (fun t ht hW => ⟨⟨(-2), (), rfl, Or.inl ⟨rfl, cz3⟩, trivial⟩, hS.F ht⟩) hS.2.2 dX12_back_19
  · skip
    refine lv_if_ne (tgt := 20) hx hb dX12_back_14 (by decide) (fun cz9 => ?_) (fun cz9 => ?_)
    · skip
      exact absurd cz9 (by decide)
    · skip
      refine lv_bipush (v := (-2)) hx hb dX12_back_17 (by decide) ?_
      exact W.iret (v := (-2)) hx hb hr (fun t ht hW => ⟨⟨(-2), (), rfl, Or.inr (Or.inl ⟨rfl, cz4, cz5⟩), trivial⟩, hS.F ht⟩) hS.2.2 dX12_back_19
  · skip
    refine lv_if_ne (tgt := 20) hx hb dX12_back_14 (by decide) (fun cz10 => ?_) (fun cz10 => ?_)
    · skip
      refine lv_aload_n hx hb dX12_back_20 rfl (lv_at hl 0 rfl) ?_
      refine va_get (D := (dC, dI)) (ci := 12) (v := .ref m23) (C := RX12) (T := TX12) (N := 59) hx hb hts (fun w h => List.mem_cons_of_mem _ (List.mem_append_right _ (List.mem_append_left _ h))) hown hK hP 0 rfl rfl 23 (by decide) (hts (.fieldLink RX12 52 "SagMemoryModel" "isKept" "[Z") (wl_mem 5 rfl)) (fun _ h9 => h9) rfl dX12_back_21 ?_
      refine lv_iload_n hx hb dX12_back_24 rfl (lv_at hl 1 rfl) ?_
      have z0 : ¬ p1.toInt < (0 : Int) := by intro h9; apply cz6; rw [zi_ltL]; simp only [Int32.toInt_toInt64]; exact h9
      have z1 : ¬ (2 : Int) < p1.toInt := by intro h9; apply cz7; rw [zi_ltL]; simp only [Int32.toInt_toInt64]; exact h9
      rcases (show p1 = 0 ∨ p1 = 1 ∨ p1 = 2 by simp only [zi_eq]; show p1.toInt = 0 ∨ p1.toInt = 1 ∨ p1.toInt = 2; omega) with rfl | rfl | rfl
      · skip
        refine va_zald hx hb hK hP 1 0 rfl rfl (by unfold vp_in; decide) dX12_back_25 ?_
        refine W.eq (g2 := F0 m 26 ls [.int 0]) rfl ?_
        refine lv_if_ne (tgt := 32) hx hb dX12_back_26 (by decide) (fun cz11 => ?_) (fun cz11 => ?_)
        · skip
          exact absurd cz11 (by decide)
        · skip
          refine lv_bipush (v := (-6)) hx hb dX12_back_29 (by decide) ?_
          exact W.iret (v := (-6)) hx hb hr (fun t ht hW => ⟨⟨(-6), (), rfl, Or.inr (Or.inr (⟨rfl, cz6, cz7⟩)), trivial⟩, hS.F ht⟩) hS.2.2 dX12_back_31
      · skip
        refine va_zald hx hb hK hP 1 0 rfl rfl (by unfold vp_in; decide) dX12_back_25 ?_
        refine W.eq (g2 := F0 m 26 ls [.int 0]) rfl ?_
        refine lv_if_ne (tgt := 32) hx hb dX12_back_26 (by decide) (fun cz12 => ?_) (fun cz12 => ?_)
        · skip
          exact absurd cz12 (by decide)
        · skip
          refine lv_bipush (v := (-6)) hx hb dX12_back_29 (by decide) ?_
          exact W.iret (v := (-6)) hx hb hr (fun t ht hW => ⟨⟨(-6), (), rfl, Or.inr (Or.inr (⟨rfl, cz6, cz7⟩)), trivial⟩, hS.F ht⟩) hS.2.2 dX12_back_31
      · skip
        refine va_zald hx hb hK hP 1 0 rfl rfl (by unfold vp_in; decide) dX12_back_25 ?_
        refine W.eq (g2 := F0 m 26 ls [.int 0]) rfl ?_
        refine lv_if_ne (tgt := 32) hx hb dX12_back_26 (by decide) (fun cz13 => ?_) (fun cz13 => ?_)
        · skip
          exact absurd cz13 (by decide)
        · skip
          refine lv_bipush (v := (-6)) hx hb dX12_back_29 (by decide) ?_
          exact W.iret (v := (-6)) hx hb hr (fun t ht hW => ⟨⟨(-6), (), rfl, Or.inr (Or.inr (⟨rfl, cz6, cz7⟩)), trivial⟩, hS.F ht⟩) hS.2.2 dX12_back_31
    · skip
      exact absurd cz10 (by decide)
def wk_f_X12_image : List Cond := .code yX12_image cX12_image 2 (some .int) :: ([.fieldLink RX12 116 "SagMemoryModel" "thrown" "I", .constantLong RX12 345 (2), .methodLink RX12 121 yX12_in, .static yX12_in, .initialized RX12, .methodLink RX12 276 yX12_copyValley, .instanceMethod yX12_copyValley, .selects RX12 yX12_copyValley yX12_copyValley, .fieldLink RX12 52 "SagMemoryModel" "isKept" "[Z"] ++ (wsX120 ++ (wk_f_X12_in ++ (wk_f_X12_copyValley_01 ++ (wk_f_X12_copyValley_02 ++ (wk_f_X12_copyValley_03 ++ []))))))
theorem wkg_f_X12_image : wk_f_X12_image.all goodWord = true := by decide +kernel
set_option maxHeartbeats 4000000 in
set_option maxRecDepth 100000 in
theorem f_X12_image (l : Launch) (dC : Nat → ClassId) (dI : Nat → Nat → Nat) (sz : Nat) (h0 : Nat) (m1 : Nat) (m2 : Nat) (m3 : Nat) (m4 : Nat) (m5 : Nat) (m16 : Nat) (m17 : Nat) (m18 : Nat) (m19 : Nat) (m20 : Nat) (m21 : Nat) (m22 : Nat) (m23 : Nat) (m27 : Nat) (m28 : Nat) (m29 : Nat) (m30 : Nat) (m31 : Nat) (m32 : Nat) (m33 : Nat) (m34 : Nat) (m35 : Nat) (m36 : Nat) (m37 : Nat) (m38 : Nat) (m39 : Nat) (m40 : Nat) (m41 : Nat) (m42 : Nat) (m46 : Nat) (m53 : Nat) (m57 : Nat) (m58 : Nat) (k16 : ClassId) (k17 : ClassId) (k18 : ClassId) (k19 : ClassId) (k20 : ClassId) (k21 : ClassId) (k22 : ClassId) (k23 : ClassId) (p1 : Int32) : Met l yX12_image wk_f_X12_image ({ frames := 2, cells := 0, slots := 0, locals := 46 }) (va_Pc [.ref h0, .int p1] (fun U => U.heap.size = sz ∧ va_P (dC, dI) vwCl [(h0, .inr (12, [.int 0, .ref m1, .ref m2, .ref m3, .ref m4, .ref m5, .int 0, .int 0, .int 0, .int 0, .int 0, .long 0, .int 0, .int 0, .int 0, .int (-1), .ref m16, .ref m17, .ref m18, .ref m19, .ref m20, .ref m21, .ref m22, .ref m23, .int 0, .int 0, .int 0, .ref m27, .ref m28, .ref m29, .ref m30, .ref m31, .ref m32, .ref m33, .ref m34, .ref m35, .ref m36, .ref m37, .ref m38, .ref m39, .ref m40, .ref m41, .ref m42, .int 0, .int 0, .int 0, .ref m46, .int 0, .int 0, .int 0, .int 0, .int 0, .int 0, .ref m53, .int 0, .int 0, .int 0, .ref m57, .ref m58])), (m16, .inl (k16, 5, .inl (fun _ => 0))), (m17, .inl (k17, 40, .inl (fun _ => 0))), (m18, .inl (k18, 30, .inl (fun _ => 0))), (m19, .inl (k19, 70, .inl (fun _ => 0))), (m20, .inl (k20, 75, .inl (fun _ => 0))), (m21, .inl (k21, 20, .inl (fun _ => 0))), (m22, .inl (k22, 450, .inl (fun _ => 0))), (m23, .inl (k23, 3, .inl (fun _ => 0)))] U.heap ∧ va_K (dC, dI) vwCl [(k16, .int), (k17, .int), (k18, .int), (k19, .int), (k20, .int), (k21, .int), (k22, .int), (k23, .boolean)] U ∧ va_D (fun _ => True) [(h0, .inr (12, [.int 0, .ref m1, .ref m2, .ref m3, .ref m4, .ref m5, .int 0, .int 0, .int 0, .int 0, .int 0, .long 0, .int 0, .int 0, .int 0, .int (-1), .ref m16, .ref m17, .ref m18, .ref m19, .ref m20, .ref m21, .ref m22, .ref m23, .int 0, .int 0, .int 0, .ref m27, .ref m28, .ref m29, .ref m30, .ref m31, .ref m32, .ref m33, .ref m34, .ref m35, .ref m36, .ref m37, .ref m38, .ref m39, .ref m40, .ref m41, .ref m42, .int 0, .int 0, .int 0, .ref m46, .int 0, .int 0, .int 0, .int 0, .int 0, .int 0, .ref m53, .int 0, .int 0, .int 0, .ref m57, .ref m58])), (m16, .inl (k16, 5, .inl (fun _ => 0))), (m17, .inl (k17, 40, .inl (fun _ => 0))), (m18, .inl (k18, 30, .inl (fun _ => 0))), (m19, .inl (k19, 70, .inl (fun _ => 0))), (m20, .inl (k20, 75, .inl (fun _ => 0))), (m21, .inl (k21, 20, .inl (fun _ => 0))), (m22, .inl (k22, 450, .inl (fun _ => 0))), (m23, .inl (k23, 3, .inl (fun _ => 0)))])) (va_Qi (fun (r : Int32) (_ : Unit) => (r = (-2) ∧ p1.toInt64 < (0 : Int64)) ∨ (r = (-2) ∧ ¬ p1.toInt64 < (0 : Int64) ∧ (2 : Int64) < p1.toInt64) ∨ (r = 0 ∧ ¬ p1.toInt64 < (0 : Int64) ∧ ¬ (2 : Int64) < p1.toInt64)) (fun (_ : Unit) (_ : State) => True) (va_A [(h0, .inr (12, [.int 0, .ref m1, .ref m2, .ref m3, .ref m4, .ref m5, .int 0, .int 0, .int 0, .int 0, .int 0, .long 0, .int 0, .int 0, .int 0, .int (-1), .ref m16, .ref m17, .ref m18, .ref m19, .ref m20, .ref m21, .ref m22, .ref m23, .int 0, .int 0, .int 0, .ref m27, .ref m28, .ref m29, .ref m30, .ref m31, .ref m32, .ref m33, .ref m34, .ref m35, .ref m36, .ref m37, .ref m38, .ref m39, .ref m40, .ref m41, .ref m42, .int 0, .int 0, .int 0, .ref m46, .int 0, .int 0, .int 0, .int 0, .int 0, .int 0, .ref m53, .int 0, .int 0, .int 0, .ref m57, .ref m58])), (m16, .inl (k16, 5, .inl (fun _ => 0))), (m17, .inl (k17, 40, .inl (fun _ => 0))), (m18, .inl (k18, 30, .inl (fun _ => 0))), (m19, .inl (k19, 70, .inl (fun _ => 0))), (m20, .inl (k20, 75, .inl (fun _ => 0))), (m21, .inl (k21, 20, .inl (fun _ => 0))), (m22, .inl (k22, 450, .inl (fun _ => 0))), (m23, .inl (k23, 3, .inl (fun _ => 0)))] sz)) 0 0 (va_A [(h0, .inr (12, [.int 0, .ref m1, .ref m2, .ref m3, .ref m4, .ref m5, .int 0, .int 0, .int 0, .int 0, .int 0, .long 0, .int 0, .int 0, .int 0, .int (-1), .ref m16, .ref m17, .ref m18, .ref m19, .ref m20, .ref m21, .ref m22, .ref m23, .int 0, .int 0, .int 0, .ref m27, .ref m28, .ref m29, .ref m30, .ref m31, .ref m32, .ref m33, .ref m34, .ref m35, .ref m36, .ref m37, .ref m38, .ref m39, .ref m40, .ref m41, .ref m42, .int 0, .int 0, .int 0, .ref m46, .int 0, .int 0, .int 0, .int 0, .int 0, .int 0, .ref m53, .int 0, .int 0, .int 0, .ref m57, .ref m58])), (m16, .inl (k16, 5, .inl (fun _ => 0))), (m17, .inl (k17, 40, .inl (fun _ => 0))), (m18, .inl (k18, 30, .inl (fun _ => 0))), (m19, .inl (k19, 70, .inl (fun _ => 0))), (m20, .inl (k20, 75, .inl (fun _ => 0))), (m21, .inl (k21, 20, .inl (fun _ => 0))), (m22, .inl (k22, 450, .inl (fun _ => 0))), (m23, .inl (k23, 3, .inl (fun _ => 0)))] sz) := by
  refine Met.ofW (cc := cX12_image) (maxL := 2) (ret := (some .int)) (by decide) rfl ?_
  intro p e s m args below meth c s₁ B hml hv
  obtain ⟨rfl, hsz, hP, hK, hD0⟩ := hv
  have hx := B.exec
  have hb := B.bytes
  have hr := B.returns
  have hts := atoms_spec (ws := wk_f_X12_image) B.pre
  have hown : s.vm.findClass RX12 = some m.cls := findClass_of_methodNamed B.named
  have hlocks := B.notSynchronized
  subst hsz
  have hD := hD0.self (sz := s.heap.size)
  generalize hAe : va_A [(h0, .inr (12, [.int 0, .ref m1, .ref m2, .ref m3, .ref m4, .ref m5, .int 0, .int 0, .int 0, .int 0, .int 0, .long 0, .int 0, .int 0, .int 0, .int (-1), .ref m16, .ref m17, .ref m18, .ref m19, .ref m20, .ref m21, .ref m22, .ref m23, .int 0, .int 0, .int 0, .ref m27, .ref m28, .ref m29, .ref m30, .ref m31, .ref m32, .ref m33, .ref m34, .ref m35, .ref m36, .ref m37, .ref m38, .ref m39, .ref m40, .ref m41, .ref m42, .int 0, .int 0, .int 0, .ref m46, .int 0, .int 0, .int 0, .int 0, .int 0, .int 0, .ref m53, .int 0, .int 0, .int 0, .ref m57, .ref m58])), (m16, .inl (k16, 5, .inl (fun _ => 0))), (m17, .inl (k17, 40, .inl (fun _ => 0))), (m18, .inl (k18, 30, .inl (fun _ => 0))), (m19, .inl (k19, 70, .inl (fun _ => 0))), (m20, .inl (k20, 75, .inl (fun _ => 0))), (m21, .inl (k21, 20, .inl (fun _ => 0))), (m22, .inl (k22, 450, .inl (fun _ => 0))), (m23, .inl (k23, 3, .inl (fun _ => 0)))] s.heap.size = A at hD ⊢
  have hA : ∀ q : Nat, s.heap.size ≤ q → A q := fun q h => by rw [← hAe]; exact Or.inr h
  have hS : va_S A s.heap s.heap [] := va_S.rf
  have hP : va_P (dC, dI) vwCl [(h0, .inr (12, [.int 0, .ref m1, .ref m2, .ref m3, .ref m4, .ref m5, .int 0, .int 0, .int 0, .int 0, .int 0, .long 0, .int 0, .int 0, .int 0, .int (-1), .ref m16, .ref m17, .ref m18, .ref m19, .ref m20, .ref m21, .ref m22, .ref m23, .int 0, .int 0, .int 0, .ref m27, .ref m28, .ref m29, .ref m30, .ref m31, .ref m32, .ref m33, .ref m34, .ref m35, .ref m36, .ref m37, .ref m38, .ref m39, .ref m40, .ref m41, .ref m42, .int 0, .int 0, .int 0, .ref m46, .int 0, .int 0, .int 0, .int 0, .int 0, .int 0, .ref m53, .int 0, .int 0, .int 0, .ref m57, .ref m58])), (m16, .inl (k16, 5, .inl (fun _ => 0))), (m17, .inl (k17, 40, .inl (fun _ => 0))), (m18, .inl (k18, 30, .inl (fun _ => 0))), (m19, .inl (k19, 70, .inl (fun _ => 0))), (m20, .inl (k20, 75, .inl (fun _ => 0))), (m21, .inl (k21, 20, .inl (fun _ => 0))), (m22, .inl (k22, 450, .inl (fun _ => 0))), (m23, .inl (k23, 3, .inl (fun _ => 0)))] s.heap := hP
  have hl := lv_entry ([.ref h0, .int p1]) (n := 2) (Nat.le_of_ble_eq_true rfl)
  rw [lg_entry_eq]
  generalize (lg_sl ([.ref h0, .int p1]) ++ List.replicate (2 - (lg_sl ([.ref h0, .int p1])).length) Slot.unset).toArray = ls at hl ⊢
  have hl : lv_has ls 2 [(0, .ref h0), (1, .int p1)] := hl
  refine lv_aload_n hx hb dX12_image_0 rfl (lv_at hl 0 rfl) ?_
  refine lv_iconst (v := 0) hx hb dX12_image_1 (by decide) ?_
  refine va_put (D := (dC, dI)) (ci := 12) (v := .int 0) (ty := .int) (C := RX12) (T := TX12) (N := 59) hx hb hts (fun w h => List.mem_cons_of_mem _ (List.mem_append_right _ (List.mem_append_left _ h))) tyX12 tyX12_ok nmX12 hown hK hP hD hS 0 rfl rfl 0 (by decide) (hts (.fieldLink RX12 116 "SagMemoryModel" "thrown" "I") (wl_mem 0 rfl)) (fun _ h9 => h9) rfl (by decide +kernel) rfl rfl (Nat.le_of_ble_eq_true rfl) dX12_image_2 (fun H locs hP hD hS => ?_)
  have hP : va_P (dC, dI) vwCl [(h0, .inr (12, [.int 0, .ref m1, .ref m2, .ref m3, .ref m4, .ref m5, .int 0, .int 0, .int 0, .int 0, .int 0, .long 0, .int 0, .int 0, .int 0, .int (-1), .ref m16, .ref m17, .ref m18, .ref m19, .ref m20, .ref m21, .ref m22, .ref m23, .int 0, .int 0, .int 0, .ref m27, .ref m28, .ref m29, .ref m30, .ref m31, .ref m32, .ref m33, .ref m34, .ref m35, .ref m36, .ref m37, .ref m38, .ref m39, .ref m40, .ref m41, .ref m42, .int 0, .int 0, .int 0, .ref m46, .int 0, .int 0, .int 0, .int 0, .int 0, .int 0, .ref m53, .int 0, .int 0, .int 0, .ref m57, .ref m58])), (m16, .inl (k16, 5, .inl (fun _ => 0))), (m17, .inl (k17, 40, .inl (fun _ => 0))), (m18, .inl (k18, 30, .inl (fun _ => 0))), (m19, .inl (k19, 70, .inl (fun _ => 0))), (m20, .inl (k20, 75, .inl (fun _ => 0))), (m21, .inl (k21, 20, .inl (fun _ => 0))), (m22, .inl (k22, 450, .inl (fun _ => 0))), (m23, .inl (k23, 3, .inl (fun _ => 0)))] H := hP
  have hD : va_D A [(h0, .inr (12, [.int 0, .ref m1, .ref m2, .ref m3, .ref m4, .ref m5, .int 0, .int 0, .int 0, .int 0, .int 0, .long 0, .int 0, .int 0, .int 0, .int (-1), .ref m16, .ref m17, .ref m18, .ref m19, .ref m20, .ref m21, .ref m22, .ref m23, .int 0, .int 0, .int 0, .ref m27, .ref m28, .ref m29, .ref m30, .ref m31, .ref m32, .ref m33, .ref m34, .ref m35, .ref m36, .ref m37, .ref m38, .ref m39, .ref m40, .ref m41, .ref m42, .int 0, .int 0, .int 0, .ref m46, .int 0, .int 0, .int 0, .int 0, .int 0, .int 0, .ref m53, .int 0, .int 0, .int 0, .ref m57, .ref m58])), (m16, .inl (k16, 5, .inl (fun _ => 0))), (m17, .inl (k17, 40, .inl (fun _ => 0))), (m18, .inl (k18, 30, .inl (fun _ => 0))), (m19, .inl (k19, 70, .inl (fun _ => 0))), (m20, .inl (k20, 75, .inl (fun _ => 0))), (m21, .inl (k21, 20, .inl (fun _ => 0))), (m22, .inl (k22, 450, .inl (fun _ => 0))), (m23, .inl (k23, 3, .inl (fun _ => 0)))] := hD
  refine lv_iload_n hx hb dX12_image_5 rfl (lv_at hl 1 rfl) ?_
  refine lv_i2l hx hb dX12_image_6 rfl ?_
  refine lv_lconst (v := 0) hx hb dX12_image_7 (by decide) ?_
  refine lv_ldc2 (v := 2) hx hb hown (hts (.constantLong RX12 345 (2)) (wl_mem 1 rfl)) dX12_image_8 ?_
  have hPc := hP.sub (ws' := []) [] rfl
  have hKc := hK.sub (tys' := []) [] rfl
  refine vp_callSi (va_Run.run (va_runS (As := [.long p1.toInt64, .long 0, .long 2]) (rest := []) ⟨hx, hb, hml, hown, hts⟩ (f_X12_in l dC dI p1.toInt64 0 2) (va_cwS 3 hts (gk_S (wl_mem 2 rfl) (wl_mem 3 rfl) (wl_mem 4 rfl) (fun w h => List.mem_cons_of_mem _ (List.mem_append_right _ (List.mem_append_right _ (List.mem_append_left _ h)))) wkg_f_X12_in) rfl rfl rfl (by decide +kernel) ⟨Nat.le_of_ble_eq_true rfl, Nat.le_of_ble_eq_true rfl⟩) ⟨fun a U g mk q => by obtain ⟨q0, qP, qK⟩ := q; exact ⟨q0, qP, va_K.moved (u := U) (U := U.calling g mk a) (Vm.Alike.refl U.vm) qK⟩, fun U hU hW => ⟨rfl, by rw [hU]; exact hPc, va_K.moved hW.alike hKc⟩⟩ rfl rfl hl.1 rfl (lv_room (Nat.le_of_ble_eq_true rfl)) dX12_image_11 ⟨Nat.le_of_ble_eq_true rfl, Nat.le_of_ble_eq_true rfl⟩)) (fun rz2 hz1 => ?_)
  rcases hz1 with ⟨rfl, cz3⟩ | ⟨rfl, cz4, cz5⟩ | ⟨rfl, cz6, cz7⟩
  · skip
    refine lv_if_ne (tgt := 20) hx hb dX12_image_14 (by decide) (fun cz8 => ?_) (fun cz8 => ?_)
    · skip
      exact absurd cz8 (by decide)
    · skip
      refine lv_bipush (v := (-2)) hx hb dX12_image_17 (by decide) ?_
      exact W.iret (v := (-2)) hx hb hr (fun t ht hW => ⟨⟨(-2), (), rfl, Or.inl ⟨rfl, cz3⟩, trivial⟩, hS.F ht⟩) hS.2.2 dX12_image_19
  · skip
    refine lv_if_ne (tgt := 20) hx hb dX12_image_14 (by decide) (fun cz9 => ?_) (fun cz9 => ?_)
    · skip
      exact absurd cz9 (by decide)
    · skip
      refine lv_bipush (v := (-2)) hx hb dX12_image_17 (by decide) ?_
      exact W.iret (v := (-2)) hx hb hr (fun t ht hW => ⟨⟨(-2), (), rfl, Or.inr (Or.inl ⟨rfl, cz4, cz5⟩), trivial⟩, hS.F ht⟩) hS.2.2 dX12_image_19
  · skip
    refine lv_if_ne (tgt := 20) hx hb dX12_image_14 (by decide) (fun cz10 => ?_) (fun cz10 => ?_)
    · skip
      have z0 : ¬ p1.toInt < (0 : Int) := by intro h9; apply cz6; rw [zi_ltL]; simp only [Int32.toInt_toInt64]; exact h9
      have z1 : ¬ (2 : Int) < p1.toInt := by intro h9; apply cz7; rw [zi_ltL]; simp only [Int32.toInt_toInt64]; exact h9
      rcases (show p1 = 0 ∨ p1 = 1 ∨ p1 = 2 by simp only [zi_eq]; show p1.toInt = 0 ∨ p1.toInt = 1 ∨ p1.toInt = 2; omega) with rfl | rfl | rfl
      · skip
        refine lv_aload_n hx hb dX12_image_20 rfl (lv_at hl 0 rfl) ?_
        refine lv_iconst (v := 0) hx hb dX12_image_21 (by decide) ?_
        refine lv_iconst (v := 1) hx hb dX12_image_22 (by decide) ?_
        refine lv_iload_n hx hb dX12_image_23 rfl (lv_at hl 1 rfl) ?_
        refine lv_iadd hx hb dX12_image_24 ?_
        refine lv_topi (fun xz11 exz11 => ?_)
        obtain rfl : xz11 = 1 := exz11.trans (by decide)
        have hPc := hP.sub (ws' := [(h0, .inr (12, [.int 0, .ref m1, .ref m2, .ref m3, .ref m4, .ref m5, .int 0, .int 0, .int 0, .int 0, .int 0, .long 0, .int 0, .int 0, .int 0, .int (-1), .ref m16, .ref m17, .ref m18, .ref m19, .ref m20, .ref m21, .ref m22, .ref m23, .int 0, .int 0, .int 0, .ref m27, .ref m28, .ref m29, .ref m30, .ref m31, .ref m32, .ref m33, .ref m34, .ref m35, .ref m36, .ref m37, .ref m38, .ref m39, .ref m40, .ref m41, .ref m42, .int 0, .int 0, .int 0, .ref m46, .int 0, .int 0, .int 0, .int 0, .int 0, .int 0, .ref m53, .int 0, .int 0, .int 0, .ref m57, .ref m58])), (m16, .inl (k16, 5, .inl (fun _ => 0))), (m17, .inl (k17, 40, .inl (fun _ => 0))), (m18, .inl (k18, 30, .inl (fun _ => 0))), (m19, .inl (k19, 70, .inl (fun _ => 0))), (m20, .inl (k20, 75, .inl (fun _ => 0))), (m21, .inl (k21, 20, .inl (fun _ => 0))), (m22, .inl (k22, 450, .inl (fun _ => 0)))]) [0, 1, 2, 3, 4, 5, 6, 7] rfl
        have hKc := hK.sub (tys' := [(k16, .int), (k17, .int), (k18, .int), (k19, .int), (k20, .int), (k21, .int), (k22, .int)]) [0, 1, 2, 3, 4, 5, 6] rfl
        have hDc := hD.sub (ws' := [(h0, .inr (12, [.int 0, .ref m1, .ref m2, .ref m3, .ref m4, .ref m5, .int 0, .int 0, .int 0, .int 0, .int 0, .long 0, .int 0, .int 0, .int 0, .int (-1), .ref m16, .ref m17, .ref m18, .ref m19, .ref m20, .ref m21, .ref m22, .ref m23, .int 0, .int 0, .int 0, .ref m27, .ref m28, .ref m29, .ref m30, .ref m31, .ref m32, .ref m33, .ref m34, .ref m35, .ref m36, .ref m37, .ref m38, .ref m39, .ref m40, .ref m41, .ref m42, .int 0, .int 0, .int 0, .ref m46, .int 0, .int 0, .int 0, .int 0, .int 0, .int 0, .ref m53, .int 0, .int 0, .int 0, .ref m57, .ref m58])), (m16, .inl (k16, 5, .inl (fun _ => 0))), (m17, .inl (k17, 40, .inl (fun _ => 0))), (m18, .inl (k18, 30, .inl (fun _ => 0))), (m19, .inl (k19, 70, .inl (fun _ => 0))), (m20, .inl (k20, 75, .inl (fun _ => 0))), (m21, .inl (k21, 20, .inl (fun _ => 0))), (m22, .inl (k22, 450, .inl (fun _ => 0)))]) [0, 1, 2, 3, 4, 5, 6, 7] (by decide) rfl
        have hFc := va_free (wc := [(h0, .inr (12, [.int 0, .ref m1, .ref m2, .ref m3, .ref m4, .ref m5, .int 0, .int 0, .int 0, .int 0, .int 0, .long 0, .int 0, .int 0, .int 0, .int (-1), .ref m16, .ref m17, .ref m18, .ref m19, .ref m20, .ref m21, .ref m22, .ref m23, .int 0, .int 0, .int 0, .ref m27, .ref m28, .ref m29, .ref m30, .ref m31, .ref m32, .ref m33, .ref m34, .ref m35, .ref m36, .ref m37, .ref m38, .ref m39, .ref m40, .ref m41, .ref m42, .int 0, .int 0, .int 0, .ref m46, .int 0, .int 0, .int 0, .int 0, .int 0, .int 0, .ref m53, .int 0, .int 0, .int 0, .ref m57, .ref m58])), (m16, .inl (k16, 5, .inl (fun _ => 0))), (m17, .inl (k17, 40, .inl (fun _ => 0))), (m18, .inl (k18, 30, .inl (fun _ => 0))), (m19, .inl (k19, 70, .inl (fun _ => 0))), (m20, .inl (k20, 75, .inl (fun _ => 0))), (m21, .inl (k21, 20, .inl (fun _ => 0))), (m22, .inl (k22, 450, .inl (fun _ => 0)))]) hD hS hA [0, 1, 2, 3, 4, 5, 6, 7] rfl
        refine va_callv (va_runV (As := [.int 0, .int 1]) (rest := []) ⟨hx, hb, hml, hown, hts⟩ (f_X12_copyValley_01 l dC dI H.size h0 m1 m2 m3 m4 m5 m16 m17 m18 m19 m20 m21 m22 m23 m27 m28 m29 m30 m31 m32 m33 m34 m35 m36 m37 m38 m39 m40 m41 m42 m46 m53 m57 m58 k16 k17 k18 k19 k20 k21 k22 0) (cwV 2 hts (gk_V (wl_mem 5 rfl) (wl_mem 6 rfl) (wl_mem 7 rfl) (wl_mem 4 rfl) (fun w h => List.mem_cons_of_mem _ (List.mem_append_right _ (List.mem_append_right _ (List.mem_append_right _ (List.mem_append_left _ h))))) wkg_f_X12_copyValley_01) rfl rfl rfl (by decide +kernel) ⟨Nat.le_of_ble_eq_true rfl, Nat.le_of_ble_eq_true rfl⟩) ⟨fun a U g mk q => by obtain ⟨q0, q1, qP, qK, qD⟩ := q; exact ⟨q0, q1, qP, va_K.moved (u := U) (U := U.calling g mk a) (Vm.Alike.refl U.vm) qK, qD⟩, va_recv hKc hPc (ci := 12) (q0 := 0) rfl rfl, fun U hU hW => ⟨rfl, by rw [hU], by rw [hU]; exact hPc, va_K.moved hW.alike hKc, hDc.weaken (fun _ _ _ _ => trivial)⟩⟩ rfl rfl hl.1 rfl (lv_room (Nat.le_of_ble_eq_true rfl)) dX12_image_25 ⟨Nat.le_of_ble_eq_true rfl, Nat.le_of_ble_eq_true rfl⟩) hS (fun q _ h => hFc q h) hFc (fun u t H1 locs ht hvm hz12 hB hz1 hk1 hS => ?_)
        obtain ⟨hP1, hK1, hD1⟩ := hB
        rw [ht] at hP1
        have hK1 := va_K.moved hvm.symm hK1
        obtain ⟨hP, hD⟩ := va_join (wr := [(m23, .inl (k23, 3, .inl (fun _ => 0)))]) (w1 := [(h0, .inr (12, [.int 0, .ref m1, .ref m2, .ref m3, .ref m4, .ref m5, .int 0, .int 0, .int 0, .int 0, .int 0, .long 0, .int 0, .int 0, .int 0, .int (-1), .ref m16, .ref m17, .ref m18, .ref m19, .ref m20, .ref m21, .ref m22, .ref m23, .int 0, .int 0, .int 0, .ref m27, .ref m28, .ref m29, .ref m30, .ref m31, .ref m32, .ref m33, .ref m34, .ref m35, .ref m36, .ref m37, .ref m38, .ref m39, .ref m40, .ref m41, .ref m42, .int 0, .int 0, .int 0, .ref m46, .int 0, .int 0, .int 0, .int 0, .int 0, .int 0, .ref m53, .int 0, .int 0, .int 0, .ref m57, .ref m58])), (m16, .inl (k16, 5, .inl (fun _ => 0))), (m17, .inl (k17, 40, .inl (fun _ => 0))), (m18, .inl (k18, 30, .inl (fun _ => 0))), (m19, .inl (k19, 70, .inl (fun _ => 0))), (m20, .inl (k20, 75, .inl (fun _ => 0))), (m21, .inl (k21, 20, .inl (fun _ => 0))), (m22, .inl (k22, 450, .inl (fun _ => 0)))]) hP hD [0, 1, 2, 3, 4, 5, 6, 7] [8] rfl rfl (by decide) (by decide) hk1 hFc hP1 hD1
        have hK := (hK.sub (tys' := [(k23, .boolean)]) [7] rfl).app hK1
        generalize H1 = H at hP hS ⊢
        have hK : va_K (dC, dI) vwCl [(k23, .boolean), (k16, .int), (k17, .int), (k18, .int), (k19, .int), (k20, .int), (k21, .int), (k22, .int)] s := hK
        have hP : va_P (dC, dI) vwCl [(m23, .inl (k23, 3, .inl (fun _ => 0))), (h0, .inr (12, [.int 0, .ref m1, .ref m2, .ref m3, .ref m4, .ref m5, .int 0, .int 0, .int 0, .int 0, .int 0, .long 0, .int 0, .int 0, .int 0, .int (-1), .ref m16, .ref m17, .ref m18, .ref m19, .ref m20, .ref m21, .ref m22, .ref m23, .int 0, .int 0, .int 0, .ref m27, .ref m28, .ref m29, .ref m30, .ref m31, .ref m32, .ref m33, .ref m34, .ref m35, .ref m36, .ref m37, .ref m38, .ref m39, .ref m40, .ref m41, .ref m42, .int 0, .int 0, .int 0, .ref m46, .int 0, .int 0, .int 0, .int 0, .int 0, .int 0, .ref m53, .int 0, .int 0, .int 0, .ref m57, .ref m58])), (m16, .inl (k16, 5, .inl (fun _ => 0))), (m17, .inl (k17, 40, .inl (fun _ => 0))), (m18, .inl (k18, 30, .inl (fun _ => 0))), (m19, .inl (k19, 70, .inl (fun _ => 0))), (m20, .inl (k20, 75, .inl (fun _ => 0))), (m21, .inl (k21, 20, .inl (fun _ => 0))), (m22, .inl (k22, 450, .inl (fun _ => 0)))] H := hP
        have hD : va_D A [(m23, .inl (k23, 3, .inl (fun _ => 0))), (h0, .inr (12, [.int 0, .ref m1, .ref m2, .ref m3, .ref m4, .ref m5, .int 0, .int 0, .int 0, .int 0, .int 0, .long 0, .int 0, .int 0, .int 0, .int (-1), .ref m16, .ref m17, .ref m18, .ref m19, .ref m20, .ref m21, .ref m22, .ref m23, .int 0, .int 0, .int 0, .ref m27, .ref m28, .ref m29, .ref m30, .ref m31, .ref m32, .ref m33, .ref m34, .ref m35, .ref m36, .ref m37, .ref m38, .ref m39, .ref m40, .ref m41, .ref m42, .int 0, .int 0, .int 0, .ref m46, .int 0, .int 0, .int 0, .int 0, .int 0, .int 0, .ref m53, .int 0, .int 0, .int 0, .ref m57, .ref m58])), (m16, .inl (k16, 5, .inl (fun _ => 0))), (m17, .inl (k17, 40, .inl (fun _ => 0))), (m18, .inl (k18, 30, .inl (fun _ => 0))), (m19, .inl (k19, 70, .inl (fun _ => 0))), (m20, .inl (k20, 75, .inl (fun _ => 0))), (m21, .inl (k21, 20, .inl (fun _ => 0))), (m22, .inl (k22, 450, .inl (fun _ => 0)))] := hD
        refine W.widen (k := 0) (n := 0) (Nat.le_of_ble_eq_true rfl) (Nat.le_of_ble_eq_true rfl) ?_
        refine lv_aload_n hx hb dX12_image_28 rfl (lv_at hl 0 rfl) ?_
        refine va_get (D := (dC, dI)) (ci := 12) (v := .ref m23) (C := RX12) (T := TX12) (N := 59) hx hb hts (fun w h => List.mem_cons_of_mem _ (List.mem_append_right _ (List.mem_append_left _ h))) hown hK hP 1 rfl rfl 23 (by decide) (hts (.fieldLink RX12 52 "SagMemoryModel" "isKept" "[Z") (wl_mem 8 rfl)) (fun _ h9 => h9) rfl dX12_image_29 ?_
        refine lv_iload_n hx hb dX12_image_32 rfl (lv_at hl 1 rfl) ?_
        refine lv_iconst (v := 1) hx hb dX12_image_33 (by decide) ?_
        refine va_zast hx hb hK hP hD hS 0 0 rfl rfl (by unfold vp_in; decide) dX12_image_34 (fun H locs hP hD hS => ?_)
        have hP : va_P (dC, dI) vwCl [(m23, .inl (k23, 3, .inl (upd (fun _ => 0) 0 (vp_nar .boolean 1)))), (h0, .inr (12, [.int 0, .ref m1, .ref m2, .ref m3, .ref m4, .ref m5, .int 0, .int 0, .int 0, .int 0, .int 0, .long 0, .int 0, .int 0, .int 0, .int (-1), .ref m16, .ref m17, .ref m18, .ref m19, .ref m20, .ref m21, .ref m22, .ref m23, .int 0, .int 0, .int 0, .ref m27, .ref m28, .ref m29, .ref m30, .ref m31, .ref m32, .ref m33, .ref m34, .ref m35, .ref m36, .ref m37, .ref m38, .ref m39, .ref m40, .ref m41, .ref m42, .int 0, .int 0, .int 0, .ref m46, .int 0, .int 0, .int 0, .int 0, .int 0, .int 0, .ref m53, .int 0, .int 0, .int 0, .ref m57, .ref m58])), (m16, .inl (k16, 5, .inl (fun _ => 0))), (m17, .inl (k17, 40, .inl (fun _ => 0))), (m18, .inl (k18, 30, .inl (fun _ => 0))), (m19, .inl (k19, 70, .inl (fun _ => 0))), (m20, .inl (k20, 75, .inl (fun _ => 0))), (m21, .inl (k21, 20, .inl (fun _ => 0))), (m22, .inl (k22, 450, .inl (fun _ => 0)))] H := hP
        have hD : va_D A [(m23, .inl (k23, 3, .inl (upd (fun _ => 0) 0 (vp_nar .boolean 1)))), (h0, .inr (12, [.int 0, .ref m1, .ref m2, .ref m3, .ref m4, .ref m5, .int 0, .int 0, .int 0, .int 0, .int 0, .long 0, .int 0, .int 0, .int 0, .int (-1), .ref m16, .ref m17, .ref m18, .ref m19, .ref m20, .ref m21, .ref m22, .ref m23, .int 0, .int 0, .int 0, .ref m27, .ref m28, .ref m29, .ref m30, .ref m31, .ref m32, .ref m33, .ref m34, .ref m35, .ref m36, .ref m37, .ref m38, .ref m39, .ref m40, .ref m41, .ref m42, .int 0, .int 0, .int 0, .ref m46, .int 0, .int 0, .int 0, .int 0, .int 0, .int 0, .ref m53, .int 0, .int 0, .int 0, .ref m57, .ref m58])), (m16, .inl (k16, 5, .inl (fun _ => 0))), (m17, .inl (k17, 40, .inl (fun _ => 0))), (m18, .inl (k18, 30, .inl (fun _ => 0))), (m19, .inl (k19, 70, .inl (fun _ => 0))), (m20, .inl (k20, 75, .inl (fun _ => 0))), (m21, .inl (k21, 20, .inl (fun _ => 0))), (m22, .inl (k22, 450, .inl (fun _ => 0)))] := hD
        generalize (upd (fun _ => 0) 0 (vp_nar .boolean 1)) = fz14 at hP hD
        refine lv_iconst (v := 0) hx hb dX12_image_35 (by decide) ?_
        exact W.iret (v := 0) hx hb hr (fun t ht hW => ⟨⟨0, (), rfl, Or.inr (Or.inr (⟨rfl, cz6, cz7⟩)), trivial⟩, hS.F ht⟩) hS.2.2 dX12_image_36
      · skip
        refine lv_aload_n hx hb dX12_image_20 rfl (lv_at hl 0 rfl) ?_
        refine lv_iconst (v := 0) hx hb dX12_image_21 (by decide) ?_
        refine lv_iconst (v := 1) hx hb dX12_image_22 (by decide) ?_
        refine lv_iload_n hx hb dX12_image_23 rfl (lv_at hl 1 rfl) ?_
        refine lv_iadd hx hb dX12_image_24 ?_
        refine lv_topi (fun xz15 exz15 => ?_)
        obtain rfl : xz15 = 2 := exz15.trans (by decide)
        have hPc := hP.sub (ws' := [(h0, .inr (12, [.int 0, .ref m1, .ref m2, .ref m3, .ref m4, .ref m5, .int 0, .int 0, .int 0, .int 0, .int 0, .long 0, .int 0, .int 0, .int 0, .int (-1), .ref m16, .ref m17, .ref m18, .ref m19, .ref m20, .ref m21, .ref m22, .ref m23, .int 0, .int 0, .int 0, .ref m27, .ref m28, .ref m29, .ref m30, .ref m31, .ref m32, .ref m33, .ref m34, .ref m35, .ref m36, .ref m37, .ref m38, .ref m39, .ref m40, .ref m41, .ref m42, .int 0, .int 0, .int 0, .ref m46, .int 0, .int 0, .int 0, .int 0, .int 0, .int 0, .ref m53, .int 0, .int 0, .int 0, .ref m57, .ref m58])), (m16, .inl (k16, 5, .inl (fun _ => 0))), (m17, .inl (k17, 40, .inl (fun _ => 0))), (m18, .inl (k18, 30, .inl (fun _ => 0))), (m19, .inl (k19, 70, .inl (fun _ => 0))), (m20, .inl (k20, 75, .inl (fun _ => 0))), (m21, .inl (k21, 20, .inl (fun _ => 0))), (m22, .inl (k22, 450, .inl (fun _ => 0)))]) [0, 1, 2, 3, 4, 5, 6, 7] rfl
        have hKc := hK.sub (tys' := [(k16, .int), (k17, .int), (k18, .int), (k19, .int), (k20, .int), (k21, .int), (k22, .int)]) [0, 1, 2, 3, 4, 5, 6] rfl
        have hDc := hD.sub (ws' := [(h0, .inr (12, [.int 0, .ref m1, .ref m2, .ref m3, .ref m4, .ref m5, .int 0, .int 0, .int 0, .int 0, .int 0, .long 0, .int 0, .int 0, .int 0, .int (-1), .ref m16, .ref m17, .ref m18, .ref m19, .ref m20, .ref m21, .ref m22, .ref m23, .int 0, .int 0, .int 0, .ref m27, .ref m28, .ref m29, .ref m30, .ref m31, .ref m32, .ref m33, .ref m34, .ref m35, .ref m36, .ref m37, .ref m38, .ref m39, .ref m40, .ref m41, .ref m42, .int 0, .int 0, .int 0, .ref m46, .int 0, .int 0, .int 0, .int 0, .int 0, .int 0, .ref m53, .int 0, .int 0, .int 0, .ref m57, .ref m58])), (m16, .inl (k16, 5, .inl (fun _ => 0))), (m17, .inl (k17, 40, .inl (fun _ => 0))), (m18, .inl (k18, 30, .inl (fun _ => 0))), (m19, .inl (k19, 70, .inl (fun _ => 0))), (m20, .inl (k20, 75, .inl (fun _ => 0))), (m21, .inl (k21, 20, .inl (fun _ => 0))), (m22, .inl (k22, 450, .inl (fun _ => 0)))]) [0, 1, 2, 3, 4, 5, 6, 7] (by decide) rfl
        have hFc := va_free (wc := [(h0, .inr (12, [.int 0, .ref m1, .ref m2, .ref m3, .ref m4, .ref m5, .int 0, .int 0, .int 0, .int 0, .int 0, .long 0, .int 0, .int 0, .int 0, .int (-1), .ref m16, .ref m17, .ref m18, .ref m19, .ref m20, .ref m21, .ref m22, .ref m23, .int 0, .int 0, .int 0, .ref m27, .ref m28, .ref m29, .ref m30, .ref m31, .ref m32, .ref m33, .ref m34, .ref m35, .ref m36, .ref m37, .ref m38, .ref m39, .ref m40, .ref m41, .ref m42, .int 0, .int 0, .int 0, .ref m46, .int 0, .int 0, .int 0, .int 0, .int 0, .int 0, .ref m53, .int 0, .int 0, .int 0, .ref m57, .ref m58])), (m16, .inl (k16, 5, .inl (fun _ => 0))), (m17, .inl (k17, 40, .inl (fun _ => 0))), (m18, .inl (k18, 30, .inl (fun _ => 0))), (m19, .inl (k19, 70, .inl (fun _ => 0))), (m20, .inl (k20, 75, .inl (fun _ => 0))), (m21, .inl (k21, 20, .inl (fun _ => 0))), (m22, .inl (k22, 450, .inl (fun _ => 0)))]) hD hS hA [0, 1, 2, 3, 4, 5, 6, 7] rfl
        refine va_callv (va_runV (As := [.int 0, .int 2]) (rest := []) ⟨hx, hb, hml, hown, hts⟩ (f_X12_copyValley_02 l dC dI H.size h0 m1 m2 m3 m4 m5 m16 m17 m18 m19 m20 m21 m22 m23 m27 m28 m29 m30 m31 m32 m33 m34 m35 m36 m37 m38 m39 m40 m41 m42 m46 m53 m57 m58 k16 k17 k18 k19 k20 k21 k22 0) (cwV 2 hts (gk_V (wl_mem 5 rfl) (wl_mem 6 rfl) (wl_mem 7 rfl) (wl_mem 4 rfl) (fun w h => List.mem_cons_of_mem _ (List.mem_append_right _ (List.mem_append_right _ (List.mem_append_right _ (List.mem_append_right _ (List.mem_append_left _ h)))))) wkg_f_X12_copyValley_02) rfl rfl rfl (by decide +kernel) ⟨Nat.le_of_ble_eq_true rfl, Nat.le_of_ble_eq_true rfl⟩) ⟨fun a U g mk q => by obtain ⟨q0, q1, qP, qK, qD⟩ := q; exact ⟨q0, q1, qP, va_K.moved (u := U) (U := U.calling g mk a) (Vm.Alike.refl U.vm) qK, qD⟩, va_recv hKc hPc (ci := 12) (q0 := 0) rfl rfl, fun U hU hW => ⟨rfl, by rw [hU], by rw [hU]; exact hPc, va_K.moved hW.alike hKc, hDc.weaken (fun _ _ _ _ => trivial)⟩⟩ rfl rfl hl.1 rfl (lv_room (Nat.le_of_ble_eq_true rfl)) dX12_image_25 ⟨Nat.le_of_ble_eq_true rfl, Nat.le_of_ble_eq_true rfl⟩) hS (fun q _ h => hFc q h) hFc (fun u t H1 locs ht hvm hz16 hB hz1 hk1 hS => ?_)
        obtain ⟨hP1, hK1, hD1⟩ := hB
        rw [ht] at hP1
        have hK1 := va_K.moved hvm.symm hK1
        obtain ⟨hP, hD⟩ := va_join (wr := [(m23, .inl (k23, 3, .inl (fun _ => 0)))]) (w1 := [(h0, .inr (12, [.int 0, .ref m1, .ref m2, .ref m3, .ref m4, .ref m5, .int 0, .int 0, .int 0, .int 0, .int 0, .long 0, .int 0, .int 0, .int 0, .int (-1), .ref m16, .ref m17, .ref m18, .ref m19, .ref m20, .ref m21, .ref m22, .ref m23, .int 0, .int 0, .int 0, .ref m27, .ref m28, .ref m29, .ref m30, .ref m31, .ref m32, .ref m33, .ref m34, .ref m35, .ref m36, .ref m37, .ref m38, .ref m39, .ref m40, .ref m41, .ref m42, .int 0, .int 0, .int 0, .ref m46, .int 0, .int 0, .int 0, .int 0, .int 0, .int 0, .ref m53, .int 0, .int 0, .int 0, .ref m57, .ref m58])), (m16, .inl (k16, 5, .inl (fun _ => 0))), (m17, .inl (k17, 40, .inl (fun _ => 0))), (m18, .inl (k18, 30, .inl (fun _ => 0))), (m19, .inl (k19, 70, .inl (fun _ => 0))), (m20, .inl (k20, 75, .inl (fun _ => 0))), (m21, .inl (k21, 20, .inl (fun _ => 0))), (m22, .inl (k22, 450, .inl (fun _ => 0)))]) hP hD [0, 1, 2, 3, 4, 5, 6, 7] [8] rfl rfl (by decide) (by decide) hk1 hFc hP1 hD1
        have hK := (hK.sub (tys' := [(k23, .boolean)]) [7] rfl).app hK1
        generalize H1 = H at hP hS ⊢
        have hK : va_K (dC, dI) vwCl [(k23, .boolean), (k16, .int), (k17, .int), (k18, .int), (k19, .int), (k20, .int), (k21, .int), (k22, .int)] s := hK
        have hP : va_P (dC, dI) vwCl [(m23, .inl (k23, 3, .inl (fun _ => 0))), (h0, .inr (12, [.int 0, .ref m1, .ref m2, .ref m3, .ref m4, .ref m5, .int 0, .int 0, .int 0, .int 0, .int 0, .long 0, .int 0, .int 0, .int 0, .int (-1), .ref m16, .ref m17, .ref m18, .ref m19, .ref m20, .ref m21, .ref m22, .ref m23, .int 0, .int 0, .int 0, .ref m27, .ref m28, .ref m29, .ref m30, .ref m31, .ref m32, .ref m33, .ref m34, .ref m35, .ref m36, .ref m37, .ref m38, .ref m39, .ref m40, .ref m41, .ref m42, .int 0, .int 0, .int 0, .ref m46, .int 0, .int 0, .int 0, .int 0, .int 0, .int 0, .ref m53, .int 0, .int 0, .int 0, .ref m57, .ref m58])), (m16, .inl (k16, 5, .inl (fun _ => 0))), (m17, .inl (k17, 40, .inl (fun _ => 0))), (m18, .inl (k18, 30, .inl (fun _ => 0))), (m19, .inl (k19, 70, .inl (fun _ => 0))), (m20, .inl (k20, 75, .inl (fun _ => 0))), (m21, .inl (k21, 20, .inl (fun _ => 0))), (m22, .inl (k22, 450, .inl (fun _ => 0)))] H := hP
        have hD : va_D A [(m23, .inl (k23, 3, .inl (fun _ => 0))), (h0, .inr (12, [.int 0, .ref m1, .ref m2, .ref m3, .ref m4, .ref m5, .int 0, .int 0, .int 0, .int 0, .int 0, .long 0, .int 0, .int 0, .int 0, .int (-1), .ref m16, .ref m17, .ref m18, .ref m19, .ref m20, .ref m21, .ref m22, .ref m23, .int 0, .int 0, .int 0, .ref m27, .ref m28, .ref m29, .ref m30, .ref m31, .ref m32, .ref m33, .ref m34, .ref m35, .ref m36, .ref m37, .ref m38, .ref m39, .ref m40, .ref m41, .ref m42, .int 0, .int 0, .int 0, .ref m46, .int 0, .int 0, .int 0, .int 0, .int 0, .int 0, .ref m53, .int 0, .int 0, .int 0, .ref m57, .ref m58])), (m16, .inl (k16, 5, .inl (fun _ => 0))), (m17, .inl (k17, 40, .inl (fun _ => 0))), (m18, .inl (k18, 30, .inl (fun _ => 0))), (m19, .inl (k19, 70, .inl (fun _ => 0))), (m20, .inl (k20, 75, .inl (fun _ => 0))), (m21, .inl (k21, 20, .inl (fun _ => 0))), (m22, .inl (k22, 450, .inl (fun _ => 0)))] := hD
        refine W.widen (k := 0) (n := 0) (Nat.le_of_ble_eq_true rfl) (Nat.le_of_ble_eq_true rfl) ?_
        refine lv_aload_n hx hb dX12_image_28 rfl (lv_at hl 0 rfl) ?_
        refine va_get (D := (dC, dI)) (ci := 12) (v := .ref m23) (C := RX12) (T := TX12) (N := 59) hx hb hts (fun w h => List.mem_cons_of_mem _ (List.mem_append_right _ (List.mem_append_left _ h))) hown hK hP 1 rfl rfl 23 (by decide) (hts (.fieldLink RX12 52 "SagMemoryModel" "isKept" "[Z") (wl_mem 8 rfl)) (fun _ h9 => h9) rfl dX12_image_29 ?_
        refine lv_iload_n hx hb dX12_image_32 rfl (lv_at hl 1 rfl) ?_
        refine lv_iconst (v := 1) hx hb dX12_image_33 (by decide) ?_
        refine va_zast hx hb hK hP hD hS 0 0 rfl rfl (by unfold vp_in; decide) dX12_image_34 (fun H locs hP hD hS => ?_)
        have hP : va_P (dC, dI) vwCl [(m23, .inl (k23, 3, .inl (upd (fun _ => 0) 1 (vp_nar .boolean 1)))), (h0, .inr (12, [.int 0, .ref m1, .ref m2, .ref m3, .ref m4, .ref m5, .int 0, .int 0, .int 0, .int 0, .int 0, .long 0, .int 0, .int 0, .int 0, .int (-1), .ref m16, .ref m17, .ref m18, .ref m19, .ref m20, .ref m21, .ref m22, .ref m23, .int 0, .int 0, .int 0, .ref m27, .ref m28, .ref m29, .ref m30, .ref m31, .ref m32, .ref m33, .ref m34, .ref m35, .ref m36, .ref m37, .ref m38, .ref m39, .ref m40, .ref m41, .ref m42, .int 0, .int 0, .int 0, .ref m46, .int 0, .int 0, .int 0, .int 0, .int 0, .int 0, .ref m53, .int 0, .int 0, .int 0, .ref m57, .ref m58])), (m16, .inl (k16, 5, .inl (fun _ => 0))), (m17, .inl (k17, 40, .inl (fun _ => 0))), (m18, .inl (k18, 30, .inl (fun _ => 0))), (m19, .inl (k19, 70, .inl (fun _ => 0))), (m20, .inl (k20, 75, .inl (fun _ => 0))), (m21, .inl (k21, 20, .inl (fun _ => 0))), (m22, .inl (k22, 450, .inl (fun _ => 0)))] H := hP
        have hD : va_D A [(m23, .inl (k23, 3, .inl (upd (fun _ => 0) 1 (vp_nar .boolean 1)))), (h0, .inr (12, [.int 0, .ref m1, .ref m2, .ref m3, .ref m4, .ref m5, .int 0, .int 0, .int 0, .int 0, .int 0, .long 0, .int 0, .int 0, .int 0, .int (-1), .ref m16, .ref m17, .ref m18, .ref m19, .ref m20, .ref m21, .ref m22, .ref m23, .int 0, .int 0, .int 0, .ref m27, .ref m28, .ref m29, .ref m30, .ref m31, .ref m32, .ref m33, .ref m34, .ref m35, .ref m36, .ref m37, .ref m38, .ref m39, .ref m40, .ref m41, .ref m42, .int 0, .int 0, .int 0, .ref m46, .int 0, .int 0, .int 0, .int 0, .int 0, .int 0, .ref m53, .int 0, .int 0, .int 0, .ref m57, .ref m58])), (m16, .inl (k16, 5, .inl (fun _ => 0))), (m17, .inl (k17, 40, .inl (fun _ => 0))), (m18, .inl (k18, 30, .inl (fun _ => 0))), (m19, .inl (k19, 70, .inl (fun _ => 0))), (m20, .inl (k20, 75, .inl (fun _ => 0))), (m21, .inl (k21, 20, .inl (fun _ => 0))), (m22, .inl (k22, 450, .inl (fun _ => 0)))] := hD
        generalize (upd (fun _ => 0) 1 (vp_nar .boolean 1)) = fz18 at hP hD
        refine lv_iconst (v := 0) hx hb dX12_image_35 (by decide) ?_
        exact W.iret (v := 0) hx hb hr (fun t ht hW => ⟨⟨0, (), rfl, Or.inr (Or.inr (⟨rfl, cz6, cz7⟩)), trivial⟩, hS.F ht⟩) hS.2.2 dX12_image_36
      · skip
        refine lv_aload_n hx hb dX12_image_20 rfl (lv_at hl 0 rfl) ?_
        refine lv_iconst (v := 0) hx hb dX12_image_21 (by decide) ?_
        refine lv_iconst (v := 1) hx hb dX12_image_22 (by decide) ?_
        refine lv_iload_n hx hb dX12_image_23 rfl (lv_at hl 1 rfl) ?_
        refine lv_iadd hx hb dX12_image_24 ?_
        refine lv_topi (fun xz19 exz19 => ?_)
        obtain rfl : xz19 = 3 := exz19.trans (by decide)
        have hPc := hP.sub (ws' := [(h0, .inr (12, [.int 0, .ref m1, .ref m2, .ref m3, .ref m4, .ref m5, .int 0, .int 0, .int 0, .int 0, .int 0, .long 0, .int 0, .int 0, .int 0, .int (-1), .ref m16, .ref m17, .ref m18, .ref m19, .ref m20, .ref m21, .ref m22, .ref m23, .int 0, .int 0, .int 0, .ref m27, .ref m28, .ref m29, .ref m30, .ref m31, .ref m32, .ref m33, .ref m34, .ref m35, .ref m36, .ref m37, .ref m38, .ref m39, .ref m40, .ref m41, .ref m42, .int 0, .int 0, .int 0, .ref m46, .int 0, .int 0, .int 0, .int 0, .int 0, .int 0, .ref m53, .int 0, .int 0, .int 0, .ref m57, .ref m58])), (m16, .inl (k16, 5, .inl (fun _ => 0))), (m17, .inl (k17, 40, .inl (fun _ => 0))), (m18, .inl (k18, 30, .inl (fun _ => 0))), (m19, .inl (k19, 70, .inl (fun _ => 0))), (m20, .inl (k20, 75, .inl (fun _ => 0))), (m21, .inl (k21, 20, .inl (fun _ => 0))), (m22, .inl (k22, 450, .inl (fun _ => 0)))]) [0, 1, 2, 3, 4, 5, 6, 7] rfl
        have hKc := hK.sub (tys' := [(k16, .int), (k17, .int), (k18, .int), (k19, .int), (k20, .int), (k21, .int), (k22, .int)]) [0, 1, 2, 3, 4, 5, 6] rfl
        have hDc := hD.sub (ws' := [(h0, .inr (12, [.int 0, .ref m1, .ref m2, .ref m3, .ref m4, .ref m5, .int 0, .int 0, .int 0, .int 0, .int 0, .long 0, .int 0, .int 0, .int 0, .int (-1), .ref m16, .ref m17, .ref m18, .ref m19, .ref m20, .ref m21, .ref m22, .ref m23, .int 0, .int 0, .int 0, .ref m27, .ref m28, .ref m29, .ref m30, .ref m31, .ref m32, .ref m33, .ref m34, .ref m35, .ref m36, .ref m37, .ref m38, .ref m39, .ref m40, .ref m41, .ref m42, .int 0, .int 0, .int 0, .ref m46, .int 0, .int 0, .int 0, .int 0, .int 0, .int 0, .ref m53, .int 0, .int 0, .int 0, .ref m57, .ref m58])), (m16, .inl (k16, 5, .inl (fun _ => 0))), (m17, .inl (k17, 40, .inl (fun _ => 0))), (m18, .inl (k18, 30, .inl (fun _ => 0))), (m19, .inl (k19, 70, .inl (fun _ => 0))), (m20, .inl (k20, 75, .inl (fun _ => 0))), (m21, .inl (k21, 20, .inl (fun _ => 0))), (m22, .inl (k22, 450, .inl (fun _ => 0)))]) [0, 1, 2, 3, 4, 5, 6, 7] (by decide) rfl
        have hFc := va_free (wc := [(h0, .inr (12, [.int 0, .ref m1, .ref m2, .ref m3, .ref m4, .ref m5, .int 0, .int 0, .int 0, .int 0, .int 0, .long 0, .int 0, .int 0, .int 0, .int (-1), .ref m16, .ref m17, .ref m18, .ref m19, .ref m20, .ref m21, .ref m22, .ref m23, .int 0, .int 0, .int 0, .ref m27, .ref m28, .ref m29, .ref m30, .ref m31, .ref m32, .ref m33, .ref m34, .ref m35, .ref m36, .ref m37, .ref m38, .ref m39, .ref m40, .ref m41, .ref m42, .int 0, .int 0, .int 0, .ref m46, .int 0, .int 0, .int 0, .int 0, .int 0, .int 0, .ref m53, .int 0, .int 0, .int 0, .ref m57, .ref m58])), (m16, .inl (k16, 5, .inl (fun _ => 0))), (m17, .inl (k17, 40, .inl (fun _ => 0))), (m18, .inl (k18, 30, .inl (fun _ => 0))), (m19, .inl (k19, 70, .inl (fun _ => 0))), (m20, .inl (k20, 75, .inl (fun _ => 0))), (m21, .inl (k21, 20, .inl (fun _ => 0))), (m22, .inl (k22, 450, .inl (fun _ => 0)))]) hD hS hA [0, 1, 2, 3, 4, 5, 6, 7] rfl
        refine va_callv (va_runV (As := [.int 0, .int 3]) (rest := []) ⟨hx, hb, hml, hown, hts⟩ (f_X12_copyValley_03 l dC dI H.size h0 m1 m2 m3 m4 m5 m16 m17 m18 m19 m20 m21 m22 m23 m27 m28 m29 m30 m31 m32 m33 m34 m35 m36 m37 m38 m39 m40 m41 m42 m46 m53 m57 m58 k16 k17 k18 k19 k20 k21 k22 0) (cwV 2 hts (gk_V (wl_mem 5 rfl) (wl_mem 6 rfl) (wl_mem 7 rfl) (wl_mem 4 rfl) (fun w h => List.mem_cons_of_mem _ (List.mem_append_right _ (List.mem_append_right _ (List.mem_append_right _ (List.mem_append_right _ (List.mem_append_right _ (List.mem_append_left _ h))))))) wkg_f_X12_copyValley_03) rfl rfl rfl (by decide +kernel) ⟨Nat.le_of_ble_eq_true rfl, Nat.le_of_ble_eq_true rfl⟩) ⟨fun a U g mk q => by obtain ⟨q0, q1, qP, qK, qD⟩ := q; exact ⟨q0, q1, qP, va_K.moved (u := U) (U := U.calling g mk a) (Vm.Alike.refl U.vm) qK, qD⟩, va_recv hKc hPc (ci := 12) (q0 := 0) rfl rfl, fun U hU hW => ⟨rfl, by rw [hU], by rw [hU]; exact hPc, va_K.moved hW.alike hKc, hDc.weaken (fun _ _ _ _ => trivial)⟩⟩ rfl rfl hl.1 rfl (lv_room (Nat.le_of_ble_eq_true rfl)) dX12_image_25 ⟨Nat.le_of_ble_eq_true rfl, Nat.le_of_ble_eq_true rfl⟩) hS (fun q _ h => hFc q h) hFc (fun u t H1 locs ht hvm hz20 hB hz1 hk1 hS => ?_)
        obtain ⟨hP1, hK1, hD1⟩ := hB
        rw [ht] at hP1
        have hK1 := va_K.moved hvm.symm hK1
        obtain ⟨hP, hD⟩ := va_join (wr := [(m23, .inl (k23, 3, .inl (fun _ => 0)))]) (w1 := [(h0, .inr (12, [.int 0, .ref m1, .ref m2, .ref m3, .ref m4, .ref m5, .int 0, .int 0, .int 0, .int 0, .int 0, .long 0, .int 0, .int 0, .int 0, .int (-1), .ref m16, .ref m17, .ref m18, .ref m19, .ref m20, .ref m21, .ref m22, .ref m23, .int 0, .int 0, .int 0, .ref m27, .ref m28, .ref m29, .ref m30, .ref m31, .ref m32, .ref m33, .ref m34, .ref m35, .ref m36, .ref m37, .ref m38, .ref m39, .ref m40, .ref m41, .ref m42, .int 0, .int 0, .int 0, .ref m46, .int 0, .int 0, .int 0, .int 0, .int 0, .int 0, .ref m53, .int 0, .int 0, .int 0, .ref m57, .ref m58])), (m16, .inl (k16, 5, .inl (fun _ => 0))), (m17, .inl (k17, 40, .inl (fun _ => 0))), (m18, .inl (k18, 30, .inl (fun _ => 0))), (m19, .inl (k19, 70, .inl (fun _ => 0))), (m20, .inl (k20, 75, .inl (fun _ => 0))), (m21, .inl (k21, 20, .inl (fun _ => 0))), (m22, .inl (k22, 450, .inl (fun _ => 0)))]) hP hD [0, 1, 2, 3, 4, 5, 6, 7] [8] rfl rfl (by decide) (by decide) hk1 hFc hP1 hD1
        have hK := (hK.sub (tys' := [(k23, .boolean)]) [7] rfl).app hK1
        generalize H1 = H at hP hS ⊢
        have hK : va_K (dC, dI) vwCl [(k23, .boolean), (k16, .int), (k17, .int), (k18, .int), (k19, .int), (k20, .int), (k21, .int), (k22, .int)] s := hK
        have hP : va_P (dC, dI) vwCl [(m23, .inl (k23, 3, .inl (fun _ => 0))), (h0, .inr (12, [.int 0, .ref m1, .ref m2, .ref m3, .ref m4, .ref m5, .int 0, .int 0, .int 0, .int 0, .int 0, .long 0, .int 0, .int 0, .int 0, .int (-1), .ref m16, .ref m17, .ref m18, .ref m19, .ref m20, .ref m21, .ref m22, .ref m23, .int 0, .int 0, .int 0, .ref m27, .ref m28, .ref m29, .ref m30, .ref m31, .ref m32, .ref m33, .ref m34, .ref m35, .ref m36, .ref m37, .ref m38, .ref m39, .ref m40, .ref m41, .ref m42, .int 0, .int 0, .int 0, .ref m46, .int 0, .int 0, .int 0, .int 0, .int 0, .int 0, .ref m53, .int 0, .int 0, .int 0, .ref m57, .ref m58])), (m16, .inl (k16, 5, .inl (fun _ => 0))), (m17, .inl (k17, 40, .inl (fun _ => 0))), (m18, .inl (k18, 30, .inl (fun _ => 0))), (m19, .inl (k19, 70, .inl (fun _ => 0))), (m20, .inl (k20, 75, .inl (fun _ => 0))), (m21, .inl (k21, 20, .inl (fun _ => 0))), (m22, .inl (k22, 450, .inl (fun _ => 0)))] H := hP
        have hD : va_D A [(m23, .inl (k23, 3, .inl (fun _ => 0))), (h0, .inr (12, [.int 0, .ref m1, .ref m2, .ref m3, .ref m4, .ref m5, .int 0, .int 0, .int 0, .int 0, .int 0, .long 0, .int 0, .int 0, .int 0, .int (-1), .ref m16, .ref m17, .ref m18, .ref m19, .ref m20, .ref m21, .ref m22, .ref m23, .int 0, .int 0, .int 0, .ref m27, .ref m28, .ref m29, .ref m30, .ref m31, .ref m32, .ref m33, .ref m34, .ref m35, .ref m36, .ref m37, .ref m38, .ref m39, .ref m40, .ref m41, .ref m42, .int 0, .int 0, .int 0, .ref m46, .int 0, .int 0, .int 0, .int 0, .int 0, .int 0, .ref m53, .int 0, .int 0, .int 0, .ref m57, .ref m58])), (m16, .inl (k16, 5, .inl (fun _ => 0))), (m17, .inl (k17, 40, .inl (fun _ => 0))), (m18, .inl (k18, 30, .inl (fun _ => 0))), (m19, .inl (k19, 70, .inl (fun _ => 0))), (m20, .inl (k20, 75, .inl (fun _ => 0))), (m21, .inl (k21, 20, .inl (fun _ => 0))), (m22, .inl (k22, 450, .inl (fun _ => 0)))] := hD
        refine W.widen (k := 0) (n := 0) (Nat.le_of_ble_eq_true rfl) (Nat.le_of_ble_eq_true rfl) ?_
        refine lv_aload_n hx hb dX12_image_28 rfl (lv_at hl 0 rfl) ?_
        refine va_get (D := (dC, dI)) (ci := 12) (v := .ref m23) (C := RX12) (T := TX12) (N := 59) hx hb hts (fun w h => List.mem_cons_of_mem _ (List.mem_append_right _ (List.mem_append_left _ h))) hown hK hP 1 rfl rfl 23 (by decide) (hts (.fieldLink RX12 52 "SagMemoryModel" "isKept" "[Z") (wl_mem 8 rfl)) (fun _ h9 => h9) rfl dX12_image_29 ?_
        refine lv_iload_n hx hb dX12_image_32 rfl (lv_at hl 1 rfl) ?_
        refine lv_iconst (v := 1) hx hb dX12_image_33 (by decide) ?_
        refine va_zast hx hb hK hP hD hS 0 0 rfl rfl (by unfold vp_in; decide) dX12_image_34 (fun H locs hP hD hS => ?_)
        have hP : va_P (dC, dI) vwCl [(m23, .inl (k23, 3, .inl (upd (fun _ => 0) 2 (vp_nar .boolean 1)))), (h0, .inr (12, [.int 0, .ref m1, .ref m2, .ref m3, .ref m4, .ref m5, .int 0, .int 0, .int 0, .int 0, .int 0, .long 0, .int 0, .int 0, .int 0, .int (-1), .ref m16, .ref m17, .ref m18, .ref m19, .ref m20, .ref m21, .ref m22, .ref m23, .int 0, .int 0, .int 0, .ref m27, .ref m28, .ref m29, .ref m30, .ref m31, .ref m32, .ref m33, .ref m34, .ref m35, .ref m36, .ref m37, .ref m38, .ref m39, .ref m40, .ref m41, .ref m42, .int 0, .int 0, .int 0, .ref m46, .int 0, .int 0, .int 0, .int 0, .int 0, .int 0, .ref m53, .int 0, .int 0, .int 0, .ref m57, .ref m58])), (m16, .inl (k16, 5, .inl (fun _ => 0))), (m17, .inl (k17, 40, .inl (fun _ => 0))), (m18, .inl (k18, 30, .inl (fun _ => 0))), (m19, .inl (k19, 70, .inl (fun _ => 0))), (m20, .inl (k20, 75, .inl (fun _ => 0))), (m21, .inl (k21, 20, .inl (fun _ => 0))), (m22, .inl (k22, 450, .inl (fun _ => 0)))] H := hP
        have hD : va_D A [(m23, .inl (k23, 3, .inl (upd (fun _ => 0) 2 (vp_nar .boolean 1)))), (h0, .inr (12, [.int 0, .ref m1, .ref m2, .ref m3, .ref m4, .ref m5, .int 0, .int 0, .int 0, .int 0, .int 0, .long 0, .int 0, .int 0, .int 0, .int (-1), .ref m16, .ref m17, .ref m18, .ref m19, .ref m20, .ref m21, .ref m22, .ref m23, .int 0, .int 0, .int 0, .ref m27, .ref m28, .ref m29, .ref m30, .ref m31, .ref m32, .ref m33, .ref m34, .ref m35, .ref m36, .ref m37, .ref m38, .ref m39, .ref m40, .ref m41, .ref m42, .int 0, .int 0, .int 0, .ref m46, .int 0, .int 0, .int 0, .int 0, .int 0, .int 0, .ref m53, .int 0, .int 0, .int 0, .ref m57, .ref m58])), (m16, .inl (k16, 5, .inl (fun _ => 0))), (m17, .inl (k17, 40, .inl (fun _ => 0))), (m18, .inl (k18, 30, .inl (fun _ => 0))), (m19, .inl (k19, 70, .inl (fun _ => 0))), (m20, .inl (k20, 75, .inl (fun _ => 0))), (m21, .inl (k21, 20, .inl (fun _ => 0))), (m22, .inl (k22, 450, .inl (fun _ => 0)))] := hD
        generalize (upd (fun _ => 0) 2 (vp_nar .boolean 1)) = fz22 at hP hD
        refine lv_iconst (v := 0) hx hb dX12_image_35 (by decide) ?_
        exact W.iret (v := 0) hx hb hr (fun t ht hW => ⟨⟨0, (), rfl, Or.inr (Or.inr (⟨rfl, cz6, cz7⟩)), trivial⟩, hS.F ht⟩) hS.2.2 dX12_image_36
    · skip
      exact absurd cz10 (by decide)
