def wk_f_X11_feed : List Cond := .code yX11_feed cX11_feed 6 (some .int) :: ([.fieldLink RX11 10 "SagMemory" "tape" "LSagMemory$Tape;", .fieldLink RX11 97 "SagMemory$Tape" "length" "I", .methodLink RX11 101 yX9_put, .instanceMethod yX9_put, .selects RX9 yX9_put yX9_put, .initialized RX9] ++ (wsX110 ++ (wsX90 ++ (wk_f_X9_put_0 ++ (wk_f_X9_put_4 ++ (wk_f_X9_put_8 ++ (wk_f_X9_put_12 ++ (wk_f_X9_put_16 ++ []))))))))
theorem wkg_f_X11_feed : wk_f_X11_feed.all goodWord = true := by decide +kernel
set_option maxHeartbeats 4000000 in
set_option maxRecDepth 100000 in
theorem f_X11_feed (l : Launch) (dC : Nat → ClassId) (dI : Nat → Nat → Nat) (sz : Nat) (h0 : Nat) (a0 : Nat) (a1 : Nat) (a2 : Nat) (a3 : Nat) (a4 : Nat) (a5 : Nat) (a6 : Nat) (a7 : Nat) (a8 : Nat) (a9 : Nat) (a10 : Nat) (a11 : Nat) (a12 : Nat) (a13 : Nat) (a14 : Nat) (yb : Nat) (rd : Nat) (k0 : ClassId) (f0 : Nat → Int32) (p1 : Int32) (p2 : Int32) (p3 : Int32) (p4 : Int32) (p5 : Int32) : Met l yX11_feed wk_f_X11_feed ({ frames := 1, cells := 0, slots := 0, locals := 22 }) (va_Pc [.ref h0, .int p1, .int p2, .int p3, .int p4, .int p5] (fun U => U.heap.size = sz ∧ va_P (dC, dI) vwCl [(h0, .inr (11, [.ref a0, .ref a1, .ref a2, .ref a3, .ref a4, .ref a5, .ref a6, .ref a7, .ref a8, .ref a9, .ref a10, .ref a11, .ref a12, .ref a13, .ref a14])), (a0, .inr (9, [.ref yb, .ref rd, .int 0, .int 0, .int (-1), .int 0, .int 0, .int 0, .int 0, .int 0])), (yb, .inl (k0, 700, .inl f0))] U.heap ∧ va_K (dC, dI) vwCl [(k0, .int)] U ∧ va_D (fun _ => True) [(h0, .inr (11, [.ref a0, .ref a1, .ref a2, .ref a3, .ref a4, .ref a5, .ref a6, .ref a7, .ref a8, .ref a9, .ref a10, .ref a11, .ref a12, .ref a13, .ref a14])), (a0, .inr (9, [.ref yb, .ref rd, .int 0, .int 0, .int (-1), .int 0, .int 0, .int 0, .int 0, .int 0])), (yb, .inl (k0, 700, .inl f0))])) (va_Qi (fun (r : Int32) (_ : Unit) => r = 20) (fun (_ : Unit) (_ : State) => True) (va_A [(h0, .inr (11, [.ref a0, .ref a1, .ref a2, .ref a3, .ref a4, .ref a5, .ref a6, .ref a7, .ref a8, .ref a9, .ref a10, .ref a11, .ref a12, .ref a13, .ref a14])), (a0, .inr (9, [.ref yb, .ref rd, .int 0, .int 0, .int (-1), .int 0, .int 0, .int 0, .int 0, .int 0])), (yb, .inl (k0, 700, .inl f0))] sz)) 0 0 (va_A [(h0, .inr (11, [.ref a0, .ref a1, .ref a2, .ref a3, .ref a4, .ref a5, .ref a6, .ref a7, .ref a8, .ref a9, .ref a10, .ref a11, .ref a12, .ref a13, .ref a14])), (a0, .inr (9, [.ref yb, .ref rd, .int 0, .int 0, .int (-1), .int 0, .int 0, .int 0, .int 0, .int 0])), (yb, .inl (k0, 700, .inl f0))] sz) := by
  refine Met.ofW (cc := cX11_feed) (maxL := 6) (ret := (some .int)) (by decide) rfl ?_
  intro p e s m args below meth c s₁ B hml hv
  obtain ⟨rfl, hsz, hP, hK, hD0⟩ := hv
  have hx := B.exec
  have hb := B.bytes
  have hr := B.returns
  have hts := atoms_spec (ws := wk_f_X11_feed) B.pre
  have hown : s.vm.findClass RX11 = some m.cls := findClass_of_methodNamed B.named
  have hlocks := B.notSynchronized
  subst hsz
  have hD := hD0.self (sz := s.heap.size)
  generalize hAe : va_A [(h0, .inr (11, [.ref a0, .ref a1, .ref a2, .ref a3, .ref a4, .ref a5, .ref a6, .ref a7, .ref a8, .ref a9, .ref a10, .ref a11, .ref a12, .ref a13, .ref a14])), (a0, .inr (9, [.ref yb, .ref rd, .int 0, .int 0, .int (-1), .int 0, .int 0, .int 0, .int 0, .int 0])), (yb, .inl (k0, 700, .inl f0))] s.heap.size = A at hD ⊢
  have hA : ∀ q : Nat, s.heap.size ≤ q → A q := fun q h => by rw [← hAe]; exact Or.inr h
  have hS : va_S A s.heap s.heap [] := va_S.rf
  have hP : va_P (dC, dI) vwCl [(h0, .inr (11, [.ref a0, .ref a1, .ref a2, .ref a3, .ref a4, .ref a5, .ref a6, .ref a7, .ref a8, .ref a9, .ref a10, .ref a11, .ref a12, .ref a13, .ref a14])), (a0, .inr (9, [.ref yb, .ref rd, .int 0, .int 0, .int (-1), .int 0, .int 0, .int 0, .int 0, .int 0])), (yb, .inl (k0, 700, .inl f0))] s.heap := hP
  have hl := lv_entry ([.ref h0, .int p1, .int p2, .int p3, .int p4, .int p5]) (n := 6) (Nat.le_of_ble_eq_true rfl)
  rw [lg_entry_eq]
  generalize (lg_sl ([.ref h0, .int p1, .int p2, .int p3, .int p4, .int p5]) ++ List.replicate (6 - (lg_sl ([.ref h0, .int p1, .int p2, .int p3, .int p4, .int p5])).length) Slot.unset).toArray = ls at hl ⊢
  have hl : lv_has ls 6 [(0, .ref h0), (1, .int p1), (2, .int p2), (3, .int p3), (4, .int p4), (5, .int p5)] := hl
  refine lv_aload_n hx hb dX11_feed_0 rfl (lv_at hl 0 rfl) ?_
  refine va_get (D := (dC, dI)) (ci := 11) (v := .ref a0) (C := RX11) (T := TX11) (N := 15) hx hb hts (fun w h => List.mem_cons_of_mem _ (List.mem_append_right _ (List.mem_append_left _ h))) hown hK hP 0 rfl rfl 0 (by decide) (hts (.fieldLink RX11 10 "SagMemory" "tape" "LSagMemory$Tape;") (wl_mem 0 rfl)) (fun _ h9 => h9) rfl dX11_feed_1 ?_
  refine va_get (D := (dC, dI)) (ci := 9) (v := .int 0) (C := RX9) (T := TX9) (N := 10) hx hb hts (fun w h => List.mem_cons_of_mem _ (List.mem_append_right _ (List.mem_append_right _ (List.mem_append_left _ h)))) hown hK hP 1 rfl rfl 2 (by decide) (hts (.fieldLink RX11 97 "SagMemory$Tape" "length" "I") (wl_mem 1 rfl)) (fun _ h9 => h9) rfl dX11_feed_4 ?_
  refine lv_bipush (v := 20) hx hb dX11_feed_7 (by decide) ?_
  refine lv_iadd hx hb dX11_feed_9 ?_
  refine lv_topi (fun xz1 exz1 => ?_)
  obtain rfl : xz1 = 20 := exz1.trans (by decide)
  refine lv_sipush (v := 700) hx hb dX11_feed_10 (by decide) ?_
  refine lv_icmp_le (tgt := 18) hx hb dX11_feed_13 (by decide) (fun cz2 => ?_) (fun cz2 => ?_)
  · skip
    refine lv_aload_n hx hb dX11_feed_18 rfl (lv_at hl 0 rfl) ?_
    refine va_get (D := (dC, dI)) (ci := 11) (v := .ref a0) (C := RX11) (T := TX11) (N := 15) hx hb hts (fun w h => List.mem_cons_of_mem _ (List.mem_append_right _ (List.mem_append_left _ h))) hown hK hP 0 rfl rfl 0 (by decide) (hts (.fieldLink RX11 10 "SagMemory" "tape" "LSagMemory$Tape;") (wl_mem 0 rfl)) (fun _ h9 => h9) rfl dX11_feed_19 ?_
    refine lv_iload_n hx hb dX11_feed_22 rfl (lv_at hl 1 rfl) ?_
    have hPc := hP.sub (ws' := [(a0, .inr (9, [.ref yb, .ref rd, .int 0, .int 0, .int (-1), .int 0, .int 0, .int 0, .int 0, .int 0])), (yb, .inl (k0, 700, .inl f0))]) [1, 2] rfl
    have hKc := hK.sub (tys' := [(k0, .int)]) [0] rfl
    have hDc := hD.sub (ws' := [(a0, .inr (9, [.ref yb, .ref rd, .int 0, .int 0, .int (-1), .int 0, .int 0, .int 0, .int 0, .int 0])), (yb, .inl (k0, 700, .inl f0))]) [1, 2] (by decide) rfl
    have hFc := va_free (wc := [(a0, .inr (9, [.ref yb, .ref rd, .int 0, .int 0, .int (-1), .int 0, .int 0, .int 0, .int 0, .int 0])), (yb, .inl (k0, 700, .inl f0))]) hD hS hA [1, 2] rfl
    refine va_callv (va_runV (As := [.int p1]) (rest := []) ⟨hx, hb, hml, hown, hts⟩ (f_X9_put_0 l dC dI s.heap.size a0 yb rd k0 f0 p1) (cwV 1 hts (gk_V (wl_mem 2 rfl) (wl_mem 3 rfl) (wl_mem 4 rfl) (wl_mem 5 rfl) (fun w h => List.mem_cons_of_mem _ (List.mem_append_right _ (List.mem_append_right _ (List.mem_append_right _ (List.mem_append_left _ h))))) wkg_f_X9_put_0) rfl rfl rfl (by decide +kernel) ⟨Nat.le_of_ble_eq_true rfl, Nat.le_of_ble_eq_true rfl⟩) ⟨fun a U g mk q => by obtain ⟨q0, q1, qP, qK, qD⟩ := q; exact ⟨q0, q1, qP, va_K.moved (u := U) (U := U.calling g mk a) (Vm.Alike.refl U.vm) qK, qD⟩, va_recv hKc hPc (ci := 9) (q0 := 0) rfl rfl, fun U hU hW => ⟨rfl, by rw [hU], by rw [hU]; exact hPc, va_K.moved hW.alike hKc, hDc.weaken (fun _ _ _ _ => trivial)⟩⟩ rfl rfl hl.1 rfl (lv_room (Nat.le_of_ble_eq_true rfl)) dX11_feed_23 ⟨Nat.le_of_ble_eq_true rfl, Nat.le_of_ble_eq_true rfl⟩) hS (fun q _ h => hFc q h) hFc (fun u t H1 locs ht hvm hz3 hB hz1 hk1 hS => ?_)
    obtain ⟨fz5, hP1, hK1, hD1⟩ := hB
    rw [ht] at hP1
    have hK1 := va_K.moved hvm.symm hK1
    obtain ⟨hP, hD⟩ := va_join (wr := [(h0, .inr (11, [.ref a0, .ref a1, .ref a2, .ref a3, .ref a4, .ref a5, .ref a6, .ref a7, .ref a8, .ref a9, .ref a10, .ref a11, .ref a12, .ref a13, .ref a14]))]) (w1 := [(a0, .inr (9, [.ref yb, .ref rd, .int 4, .int 0, .int (-1), .int 0, .int 0, .int 0, .int 0, .int 0])), (yb, .inl (k0, 700, .inl fz5))]) hP hD [1, 2] [0] rfl rfl (by decide) (by decide) hk1 hFc hP1 hD1
    have hK := (hK.sub (tys' := []) [] rfl).app hK1
    generalize H1 = H at hP hS ⊢
    have hK : va_K (dC, dI) vwCl [(k0, .int)] s := hK
    have hP : va_P (dC, dI) vwCl [(h0, .inr (11, [.ref a0, .ref a1, .ref a2, .ref a3, .ref a4, .ref a5, .ref a6, .ref a7, .ref a8, .ref a9, .ref a10, .ref a11, .ref a12, .ref a13, .ref a14])), (a0, .inr (9, [.ref yb, .ref rd, .int 4, .int 0, .int (-1), .int 0, .int 0, .int 0, .int 0, .int 0])), (yb, .inl (k0, 700, .inl fz5))] H := hP
    have hD : va_D A [(h0, .inr (11, [.ref a0, .ref a1, .ref a2, .ref a3, .ref a4, .ref a5, .ref a6, .ref a7, .ref a8, .ref a9, .ref a10, .ref a11, .ref a12, .ref a13, .ref a14])), (a0, .inr (9, [.ref yb, .ref rd, .int 4, .int 0, .int (-1), .int 0, .int 0, .int 0, .int 0, .int 0])), (yb, .inl (k0, 700, .inl fz5))] := hD
    refine W.widen (k := 0) (n := 0) (Nat.le_of_ble_eq_true rfl) (Nat.le_of_ble_eq_true rfl) ?_
    refine lv_aload_n hx hb dX11_feed_26 rfl (lv_at hl 0 rfl) ?_
    refine va_get (D := (dC, dI)) (ci := 11) (v := .ref a0) (C := RX11) (T := TX11) (N := 15) hx hb hts (fun w h => List.mem_cons_of_mem _ (List.mem_append_right _ (List.mem_append_left _ h))) hown hK hP 0 rfl rfl 0 (by decide) (hts (.fieldLink RX11 10 "SagMemory" "tape" "LSagMemory$Tape;") (wl_mem 0 rfl)) (fun _ h9 => h9) rfl dX11_feed_27 ?_
    refine lv_iload_n hx hb dX11_feed_30 rfl (lv_at hl 2 rfl) ?_
    have hPc := hP.sub (ws' := [(a0, .inr (9, [.ref yb, .ref rd, .int 4, .int 0, .int (-1), .int 0, .int 0, .int 0, .int 0, .int 0])), (yb, .inl (k0, 700, .inl fz5))]) [1, 2] rfl
    have hKc := hK.sub (tys' := [(k0, .int)]) [0] rfl
    have hDc := hD.sub (ws' := [(a0, .inr (9, [.ref yb, .ref rd, .int 4, .int 0, .int (-1), .int 0, .int 0, .int 0, .int 0, .int 0])), (yb, .inl (k0, 700, .inl fz5))]) [1, 2] (by decide) rfl
    have hFc := va_free (wc := [(a0, .inr (9, [.ref yb, .ref rd, .int 4, .int 0, .int (-1), .int 0, .int 0, .int 0, .int 0, .int 0])), (yb, .inl (k0, 700, .inl fz5))]) hD hS hA [1, 2] rfl
    refine va_callv (va_runV (As := [.int p2]) (rest := []) ⟨hx, hb, hml, hown, hts⟩ (f_X9_put_4 l dC dI H.size a0 yb rd k0 fz5 p2) (cwV 1 hts (gk_V (wl_mem 2 rfl) (wl_mem 3 rfl) (wl_mem 4 rfl) (wl_mem 5 rfl) (fun w h => List.mem_cons_of_mem _ (List.mem_append_right _ (List.mem_append_right _ (List.mem_append_right _ (List.mem_append_right _ (List.mem_append_left _ h)))))) wkg_f_X9_put_4) rfl rfl rfl (by decide +kernel) ⟨Nat.le_of_ble_eq_true rfl, Nat.le_of_ble_eq_true rfl⟩) ⟨fun a U g mk q => by obtain ⟨q0, q1, qP, qK, qD⟩ := q; exact ⟨q0, q1, qP, va_K.moved (u := U) (U := U.calling g mk a) (Vm.Alike.refl U.vm) qK, qD⟩, va_recv hKc hPc (ci := 9) (q0 := 0) rfl rfl, fun U hU hW => ⟨rfl, by rw [hU], by rw [hU]; exact hPc, va_K.moved hW.alike hKc, hDc.weaken (fun _ _ _ _ => trivial)⟩⟩ rfl rfl hl.1 rfl (lv_room (Nat.le_of_ble_eq_true rfl)) dX11_feed_31 ⟨Nat.le_of_ble_eq_true rfl, Nat.le_of_ble_eq_true rfl⟩) hS (fun q _ h => hFc q h) hFc (fun u t H1 locs ht hvm hz6 hB hz1 hk1 hS => ?_)
    obtain ⟨fz8, hP1, hK1, hD1⟩ := hB
    rw [ht] at hP1
    have hK1 := va_K.moved hvm.symm hK1
    obtain ⟨hP, hD⟩ := va_join (wr := [(h0, .inr (11, [.ref a0, .ref a1, .ref a2, .ref a3, .ref a4, .ref a5, .ref a6, .ref a7, .ref a8, .ref a9, .ref a10, .ref a11, .ref a12, .ref a13, .ref a14]))]) (w1 := [(a0, .inr (9, [.ref yb, .ref rd, .int 8, .int 0, .int (-1), .int 0, .int 0, .int 0, .int 0, .int 0])), (yb, .inl (k0, 700, .inl fz8))]) hP hD [1, 2] [0] rfl rfl (by decide) (by decide) hk1 hFc hP1 hD1
    have hK := (hK.sub (tys' := []) [] rfl).app hK1
    generalize H1 = H at hP hS ⊢
    have hK : va_K (dC, dI) vwCl [(k0, .int)] s := hK
    have hP : va_P (dC, dI) vwCl [(h0, .inr (11, [.ref a0, .ref a1, .ref a2, .ref a3, .ref a4, .ref a5, .ref a6, .ref a7, .ref a8, .ref a9, .ref a10, .ref a11, .ref a12, .ref a13, .ref a14])), (a0, .inr (9, [.ref yb, .ref rd, .int 8, .int 0, .int (-1), .int 0, .int 0, .int 0, .int 0, .int 0])), (yb, .inl (k0, 700, .inl fz8))] H := hP
    have hD : va_D A [(h0, .inr (11, [.ref a0, .ref a1, .ref a2, .ref a3, .ref a4, .ref a5, .ref a6, .ref a7, .ref a8, .ref a9, .ref a10, .ref a11, .ref a12, .ref a13, .ref a14])), (a0, .inr (9, [.ref yb, .ref rd, .int 8, .int 0, .int (-1), .int 0, .int 0, .int 0, .int 0, .int 0])), (yb, .inl (k0, 700, .inl fz8))] := hD
    refine W.widen (k := 0) (n := 0) (Nat.le_of_ble_eq_true rfl) (Nat.le_of_ble_eq_true rfl) ?_
    refine lv_aload_n hx hb dX11_feed_34 rfl (lv_at hl 0 rfl) ?_
    refine va_get (D := (dC, dI)) (ci := 11) (v := .ref a0) (C := RX11) (T := TX11) (N := 15) hx hb hts (fun w h => List.mem_cons_of_mem _ (List.mem_append_right _ (List.mem_append_left _ h))) hown hK hP 0 rfl rfl 0 (by decide) (hts (.fieldLink RX11 10 "SagMemory" "tape" "LSagMemory$Tape;") (wl_mem 0 rfl)) (fun _ h9 => h9) rfl dX11_feed_35 ?_
    refine lv_iload_n hx hb dX11_feed_38 rfl (lv_at hl 3 rfl) ?_
    have hPc := hP.sub (ws' := [(a0, .inr (9, [.ref yb, .ref rd, .int 8, .int 0, .int (-1), .int 0, .int 0, .int 0, .int 0, .int 0])), (yb, .inl (k0, 700, .inl fz8))]) [1, 2] rfl
    have hKc := hK.sub (tys' := [(k0, .int)]) [0] rfl
    have hDc := hD.sub (ws' := [(a0, .inr (9, [.ref yb, .ref rd, .int 8, .int 0, .int (-1), .int 0, .int 0, .int 0, .int 0, .int 0])), (yb, .inl (k0, 700, .inl fz8))]) [1, 2] (by decide) rfl
    have hFc := va_free (wc := [(a0, .inr (9, [.ref yb, .ref rd, .int 8, .int 0, .int (-1), .int 0, .int 0, .int 0, .int 0, .int 0])), (yb, .inl (k0, 700, .inl fz8))]) hD hS hA [1, 2] rfl
    refine va_callv (va_runV (As := [.int p3]) (rest := []) ⟨hx, hb, hml, hown, hts⟩ (f_X9_put_8 l dC dI H.size a0 yb rd k0 fz8 p3) (cwV 1 hts (gk_V (wl_mem 2 rfl) (wl_mem 3 rfl) (wl_mem 4 rfl) (wl_mem 5 rfl) (fun w h => List.mem_cons_of_mem _ (List.mem_append_right _ (List.mem_append_right _ (List.mem_append_right _ (List.mem_append_right _ (List.mem_append_right _ (List.mem_append_left _ h))))))) wkg_f_X9_put_8) rfl rfl rfl (by decide +kernel) ⟨Nat.le_of_ble_eq_true rfl, Nat.le_of_ble_eq_true rfl⟩) ⟨fun a U g mk q => by obtain ⟨q0, q1, qP, qK, qD⟩ := q; exact ⟨q0, q1, qP, va_K.moved (u := U) (U := U.calling g mk a) (Vm.Alike.refl U.vm) qK, qD⟩, va_recv hKc hPc (ci := 9) (q0 := 0) rfl rfl, fun U hU hW => ⟨rfl, by rw [hU], by rw [hU]; exact hPc, va_K.moved hW.alike hKc, hDc.weaken (fun _ _ _ _ => trivial)⟩⟩ rfl rfl hl.1 rfl (lv_room (Nat.le_of_ble_eq_true rfl)) dX11_feed_39 ⟨Nat.le_of_ble_eq_true rfl, Nat.le_of_ble_eq_true rfl⟩) hS (fun q _ h => hFc q h) hFc (fun u t H1 locs ht hvm hz9 hB hz1 hk1 hS => ?_)
    obtain ⟨fz11, hP1, hK1, hD1⟩ := hB
    rw [ht] at hP1
    have hK1 := va_K.moved hvm.symm hK1
    obtain ⟨hP, hD⟩ := va_join (wr := [(h0, .inr (11, [.ref a0, .ref a1, .ref a2, .ref a3, .ref a4, .ref a5, .ref a6, .ref a7, .ref a8, .ref a9, .ref a10, .ref a11, .ref a12, .ref a13, .ref a14]))]) (w1 := [(a0, .inr (9, [.ref yb, .ref rd, .int 12, .int 0, .int (-1), .int 0, .int 0, .int 0, .int 0, .int 0])), (yb, .inl (k0, 700, .inl fz11))]) hP hD [1, 2] [0] rfl rfl (by decide) (by decide) hk1 hFc hP1 hD1
    have hK := (hK.sub (tys' := []) [] rfl).app hK1
    generalize H1 = H at hP hS ⊢
    have hK : va_K (dC, dI) vwCl [(k0, .int)] s := hK
    have hP : va_P (dC, dI) vwCl [(h0, .inr (11, [.ref a0, .ref a1, .ref a2, .ref a3, .ref a4, .ref a5, .ref a6, .ref a7, .ref a8, .ref a9, .ref a10, .ref a11, .ref a12, .ref a13, .ref a14])), (a0, .inr (9, [.ref yb, .ref rd, .int 12, .int 0, .int (-1), .int 0, .int 0, .int 0, .int 0, .int 0])), (yb, .inl (k0, 700, .inl fz11))] H := hP
    have hD : va_D A [(h0, .inr (11, [.ref a0, .ref a1, .ref a2, .ref a3, .ref a4, .ref a5, .ref a6, .ref a7, .ref a8, .ref a9, .ref a10, .ref a11, .ref a12, .ref a13, .ref a14])), (a0, .inr (9, [.ref yb, .ref rd, .int 12, .int 0, .int (-1), .int 0, .int 0, .int 0, .int 0, .int 0])), (yb, .inl (k0, 700, .inl fz11))] := hD
    refine W.widen (k := 0) (n := 0) (Nat.le_of_ble_eq_true rfl) (Nat.le_of_ble_eq_true rfl) ?_
    refine lv_aload_n hx hb dX11_feed_42 rfl (lv_at hl 0 rfl) ?_
    refine va_get (D := (dC, dI)) (ci := 11) (v := .ref a0) (C := RX11) (T := TX11) (N := 15) hx hb hts (fun w h => List.mem_cons_of_mem _ (List.mem_append_right _ (List.mem_append_left _ h))) hown hK hP 0 rfl rfl 0 (by decide) (hts (.fieldLink RX11 10 "SagMemory" "tape" "LSagMemory$Tape;") (wl_mem 0 rfl)) (fun _ h9 => h9) rfl dX11_feed_43 ?_
    refine lv_iload hx hb dX11_feed_46 (lv_at hl 4 rfl) ?_
    have hPc := hP.sub (ws' := [(a0, .inr (9, [.ref yb, .ref rd, .int 12, .int 0, .int (-1), .int 0, .int 0, .int 0, .int 0, .int 0])), (yb, .inl (k0, 700, .inl fz11))]) [1, 2] rfl
    have hKc := hK.sub (tys' := [(k0, .int)]) [0] rfl
    have hDc := hD.sub (ws' := [(a0, .inr (9, [.ref yb, .ref rd, .int 12, .int 0, .int (-1), .int 0, .int 0, .int 0, .int 0, .int 0])), (yb, .inl (k0, 700, .inl fz11))]) [1, 2] (by decide) rfl
    have hFc := va_free (wc := [(a0, .inr (9, [.ref yb, .ref rd, .int 12, .int 0, .int (-1), .int 0, .int 0, .int 0, .int 0, .int 0])), (yb, .inl (k0, 700, .inl fz11))]) hD hS hA [1, 2] rfl
    refine va_callv (va_runV (As := [.int p4]) (rest := []) ⟨hx, hb, hml, hown, hts⟩ (f_X9_put_12 l dC dI H.size a0 yb rd k0 fz11 p4) (cwV 1 hts (gk_V (wl_mem 2 rfl) (wl_mem 3 rfl) (wl_mem 4 rfl) (wl_mem 5 rfl) (fun w h => List.mem_cons_of_mem _ (List.mem_append_right _ (List.mem_append_right _ (List.mem_append_right _ (List.mem_append_right _ (List.mem_append_right _ (List.mem_append_right _ (List.mem_append_left _ h)))))))) wkg_f_X9_put_12) rfl rfl rfl (by decide +kernel) ⟨Nat.le_of_ble_eq_true rfl, Nat.le_of_ble_eq_true rfl⟩) ⟨fun a U g mk q => by obtain ⟨q0, q1, qP, qK, qD⟩ := q; exact ⟨q0, q1, qP, va_K.moved (u := U) (U := U.calling g mk a) (Vm.Alike.refl U.vm) qK, qD⟩, va_recv hKc hPc (ci := 9) (q0 := 0) rfl rfl, fun U hU hW => ⟨rfl, by rw [hU], by rw [hU]; exact hPc, va_K.moved hW.alike hKc, hDc.weaken (fun _ _ _ _ => trivial)⟩⟩ rfl rfl hl.1 rfl (lv_room (Nat.le_of_ble_eq_true rfl)) dX11_feed_48 ⟨Nat.le_of_ble_eq_true rfl, Nat.le_of_ble_eq_true rfl⟩) hS (fun q _ h => hFc q h) hFc (fun u t H1 locs ht hvm hz12 hB hz1 hk1 hS => ?_)
    obtain ⟨fz14, hP1, hK1, hD1⟩ := hB
    rw [ht] at hP1
    have hK1 := va_K.moved hvm.symm hK1
    obtain ⟨hP, hD⟩ := va_join (wr := [(h0, .inr (11, [.ref a0, .ref a1, .ref a2, .ref a3, .ref a4, .ref a5, .ref a6, .ref a7, .ref a8, .ref a9, .ref a10, .ref a11, .ref a12, .ref a13, .ref a14]))]) (w1 := [(a0, .inr (9, [.ref yb, .ref rd, .int 16, .int 0, .int (-1), .int 0, .int 0, .int 0, .int 0, .int 0])), (yb, .inl (k0, 700, .inl fz14))]) hP hD [1, 2] [0] rfl rfl (by decide) (by decide) hk1 hFc hP1 hD1
    have hK := (hK.sub (tys' := []) [] rfl).app hK1
    generalize H1 = H at hP hS ⊢
    have hK : va_K (dC, dI) vwCl [(k0, .int)] s := hK
    have hP : va_P (dC, dI) vwCl [(h0, .inr (11, [.ref a0, .ref a1, .ref a2, .ref a3, .ref a4, .ref a5, .ref a6, .ref a7, .ref a8, .ref a9, .ref a10, .ref a11, .ref a12, .ref a13, .ref a14])), (a0, .inr (9, [.ref yb, .ref rd, .int 16, .int 0, .int (-1), .int 0, .int 0, .int 0, .int 0, .int 0])), (yb, .inl (k0, 700, .inl fz14))] H := hP
    have hD : va_D A [(h0, .inr (11, [.ref a0, .ref a1, .ref a2, .ref a3, .ref a4, .ref a5, .ref a6, .ref a7, .ref a8, .ref a9, .ref a10, .ref a11, .ref a12, .ref a13, .ref a14])), (a0, .inr (9, [.ref yb, .ref rd, .int 16, .int 0, .int (-1), .int 0, .int 0, .int 0, .int 0, .int 0])), (yb, .inl (k0, 700, .inl fz14))] := hD
    refine W.widen (k := 0) (n := 0) (Nat.le_of_ble_eq_true rfl) (Nat.le_of_ble_eq_true rfl) ?_
    refine lv_aload_n hx hb dX11_feed_51 rfl (lv_at hl 0 rfl) ?_
    refine va_get (D := (dC, dI)) (ci := 11) (v := .ref a0) (C := RX11) (T := TX11) (N := 15) hx hb hts (fun w h => List.mem_cons_of_mem _ (List.mem_append_right _ (List.mem_append_left _ h))) hown hK hP 0 rfl rfl 0 (by decide) (hts (.fieldLink RX11 10 "SagMemory" "tape" "LSagMemory$Tape;") (wl_mem 0 rfl)) (fun _ h9 => h9) rfl dX11_feed_52 ?_
    refine lv_iload hx hb dX11_feed_55 (lv_at hl 5 rfl) ?_
    have hPc := hP.sub (ws' := [(a0, .inr (9, [.ref yb, .ref rd, .int 16, .int 0, .int (-1), .int 0, .int 0, .int 0, .int 0, .int 0])), (yb, .inl (k0, 700, .inl fz14))]) [1, 2] rfl
    have hKc := hK.sub (tys' := [(k0, .int)]) [0] rfl
    have hDc := hD.sub (ws' := [(a0, .inr (9, [.ref yb, .ref rd, .int 16, .int 0, .int (-1), .int 0, .int 0, .int 0, .int 0, .int 0])), (yb, .inl (k0, 700, .inl fz14))]) [1, 2] (by decide) rfl
    have hFc := va_free (wc := [(a0, .inr (9, [.ref yb, .ref rd, .int 16, .int 0, .int (-1), .int 0, .int 0, .int 0, .int 0, .int 0])), (yb, .inl (k0, 700, .inl fz14))]) hD hS hA [1, 2] rfl
    refine va_callv (va_runV (As := [.int p5]) (rest := []) ⟨hx, hb, hml, hown, hts⟩ (f_X9_put_16 l dC dI H.size a0 yb rd k0 fz14 p5) (cwV 1 hts (gk_V (wl_mem 2 rfl) (wl_mem 3 rfl) (wl_mem 4 rfl) (wl_mem 5 rfl) (fun w h => List.mem_cons_of_mem _ (List.mem_append_right _ (List.mem_append_right _ (List.mem_append_right _ (List.mem_append_right _ (List.mem_append_right _ (List.mem_append_right _ (List.mem_append_right _ (List.mem_append_left _ h))))))))) wkg_f_X9_put_16) rfl rfl rfl (by decide +kernel) ⟨Nat.le_of_ble_eq_true rfl, Nat.le_of_ble_eq_true rfl⟩) ⟨fun a U g mk q => by obtain ⟨q0, q1, qP, qK, qD⟩ := q; exact ⟨q0, q1, qP, va_K.moved (u := U) (U := U.calling g mk a) (Vm.Alike.refl U.vm) qK, qD⟩, va_recv hKc hPc (ci := 9) (q0 := 0) rfl rfl, fun U hU hW => ⟨rfl, by rw [hU], by rw [hU]; exact hPc, va_K.moved hW.alike hKc, hDc.weaken (fun _ _ _ _ => trivial)⟩⟩ rfl rfl hl.1 rfl (lv_room (Nat.le_of_ble_eq_true rfl)) dX11_feed_57 ⟨Nat.le_of_ble_eq_true rfl, Nat.le_of_ble_eq_true rfl⟩) hS (fun q _ h => hFc q h) hFc (fun u t H1 locs ht hvm hz15 hB hz1 hk1 hS => ?_)
    obtain ⟨fz17, hP1, hK1, hD1⟩ := hB
    rw [ht] at hP1
    have hK1 := va_K.moved hvm.symm hK1
    obtain ⟨hP, hD⟩ := va_join (wr := [(h0, .inr (11, [.ref a0, .ref a1, .ref a2, .ref a3, .ref a4, .ref a5, .ref a6, .ref a7, .ref a8, .ref a9, .ref a10, .ref a11, .ref a12, .ref a13, .ref a14]))]) (w1 := [(a0, .inr (9, [.ref yb, .ref rd, .int 20, .int 0, .int (-1), .int 0, .int 0, .int 0, .int 0, .int 0])), (yb, .inl (k0, 700, .inl fz17))]) hP hD [1, 2] [0] rfl rfl (by decide) (by decide) hk1 hFc hP1 hD1
    have hK := (hK.sub (tys' := []) [] rfl).app hK1
    generalize H1 = H at hP hS ⊢
    have hK : va_K (dC, dI) vwCl [(k0, .int)] s := hK
    have hP : va_P (dC, dI) vwCl [(h0, .inr (11, [.ref a0, .ref a1, .ref a2, .ref a3, .ref a4, .ref a5, .ref a6, .ref a7, .ref a8, .ref a9, .ref a10, .ref a11, .ref a12, .ref a13, .ref a14])), (a0, .inr (9, [.ref yb, .ref rd, .int 20, .int 0, .int (-1), .int 0, .int 0, .int 0, .int 0, .int 0])), (yb, .inl (k0, 700, .inl fz17))] H := hP
    have hD : va_D A [(h0, .inr (11, [.ref a0, .ref a1, .ref a2, .ref a3, .ref a4, .ref a5, .ref a6, .ref a7, .ref a8, .ref a9, .ref a10, .ref a11, .ref a12, .ref a13, .ref a14])), (a0, .inr (9, [.ref yb, .ref rd, .int 20, .int 0, .int (-1), .int 0, .int 0, .int 0, .int 0, .int 0])), (yb, .inl (k0, 700, .inl fz17))] := hD
    refine W.widen (k := 0) (n := 0) (Nat.le_of_ble_eq_true rfl) (Nat.le_of_ble_eq_true rfl) ?_
    refine lv_aload_n hx hb dX11_feed_60 rfl (lv_at hl 0 rfl) ?_
    refine va_get (D := (dC, dI)) (ci := 11) (v := .ref a0) (C := RX11) (T := TX11) (N := 15) hx hb hts (fun w h => List.mem_cons_of_mem _ (List.mem_append_right _ (List.mem_append_left _ h))) hown hK hP 0 rfl rfl 0 (by decide) (hts (.fieldLink RX11 10 "SagMemory" "tape" "LSagMemory$Tape;") (wl_mem 0 rfl)) (fun _ h9 => h9) rfl dX11_feed_61 ?_
    refine va_get (D := (dC, dI)) (ci := 9) (v := .int 20) (C := RX9) (T := TX9) (N := 10) hx hb hts (fun w h => List.mem_cons_of_mem _ (List.mem_append_right _ (List.mem_append_right _ (List.mem_append_left _ h)))) hown hK hP 1 rfl rfl 2 (by decide) (hts (.fieldLink RX11 97 "SagMemory$Tape" "length" "I") (wl_mem 1 rfl)) (fun _ h9 => h9) rfl dX11_feed_64 ?_
    exact W.iret (v := 20) hx hb hr (fun t ht hW => ⟨⟨20, (), rfl, rfl, trivial⟩, hS.F ht⟩) hS.2.2 dX11_feed_67
  · skip
    exact absurd cz2 (by decide)
def wk_f_X11_end : List Cond := .code yX11_end cX11_end 2 (some .int) :: ([.fieldLink RX11 10 "SagMemory" "tape" "LSagMemory$Tape;", .fieldLink RX11 97 "SagMemory$Tape" "length" "I"] ++ (wsX110 ++ (wsX90 ++ [])))
theorem wkg_f_X11_end : wk_f_X11_end.all goodWord = true := by decide +kernel
set_option maxHeartbeats 4000000 in
set_option maxRecDepth 100000 in
theorem f_X11_end (l : Launch) (dC : Nat → ClassId) (dI : Nat → Nat → Nat) (sz : Nat) (h0 : Nat) (a0 : Nat) (a1 : Nat) (a2 : Nat) (a3 : Nat) (a4 : Nat) (a5 : Nat) (a6 : Nat) (a7 : Nat) (a8 : Nat) (a9 : Nat) (a10 : Nat) (a11 : Nat) (a12 : Nat) (a13 : Nat) (a14 : Nat) (yb : Nat) (rd : Nat) (p1 : Int32) : Met l yX11_end wk_f_X11_end ({ frames := 0, cells := 0, slots := 0, locals := 0 }) (va_Pc [.ref h0, .int p1] (fun U => U.heap.size = sz ∧ va_P (dC, dI) vwCl [(h0, .inr (11, [.ref a0, .ref a1, .ref a2, .ref a3, .ref a4, .ref a5, .ref a6, .ref a7, .ref a8, .ref a9, .ref a10, .ref a11, .ref a12, .ref a13, .ref a14])), (a0, .inr (9, [.ref yb, .ref rd, .int 0, .int 0, .int (-1), .int 0, .int 0, .int 0, .int 0, .int 0]))] U.heap ∧ va_K (dC, dI) vwCl [] U ∧ va_D (fun _ => True) [(h0, .inr (11, [.ref a0, .ref a1, .ref a2, .ref a3, .ref a4, .ref a5, .ref a6, .ref a7, .ref a8, .ref a9, .ref a10, .ref a11, .ref a12, .ref a13, .ref a14])), (a0, .inr (9, [.ref yb, .ref rd, .int 0, .int 0, .int (-1), .int 0, .int 0, .int 0, .int 0, .int 0]))])) (va_Qi (fun (r : Int32) (_ : Unit) => (r = (-1) ∧ p1 < (0 : Int32)) ∨ (r = p1 ∧ ¬ p1 < (0 : Int32) ∧ p1 ≤ (0 : Int32)) ∨ (r = (-1) ∧ ¬ p1 < (0 : Int32) ∧ ¬ p1 ≤ (0 : Int32))) (fun (_ : Unit) (_ : State) => True) (va_A [(h0, .inr (11, [.ref a0, .ref a1, .ref a2, .ref a3, .ref a4, .ref a5, .ref a6, .ref a7, .ref a8, .ref a9, .ref a10, .ref a11, .ref a12, .ref a13, .ref a14])), (a0, .inr (9, [.ref yb, .ref rd, .int 0, .int 0, .int (-1), .int 0, .int 0, .int 0, .int 0, .int 0]))] sz)) 0 0 (va_A [(h0, .inr (11, [.ref a0, .ref a1, .ref a2, .ref a3, .ref a4, .ref a5, .ref a6, .ref a7, .ref a8, .ref a9, .ref a10, .ref a11, .ref a12, .ref a13, .ref a14])), (a0, .inr (9, [.ref yb, .ref rd, .int 0, .int 0, .int (-1), .int 0, .int 0, .int 0, .int 0, .int 0]))] sz) := by
  refine Met.ofW (cc := cX11_end) (maxL := 2) (ret := (some .int)) (by decide) rfl ?_
  intro p e s m args below meth c s₁ B hml hv
  obtain ⟨rfl, hsz, hP, hK, hD0⟩ := hv
  have hx := B.exec
  have hb := B.bytes
  have hr := B.returns
  have hts := atoms_spec (ws := wk_f_X11_end) B.pre
  have hown : s.vm.findClass RX11 = some m.cls := findClass_of_methodNamed B.named
  have hlocks := B.notSynchronized
  subst hsz
  have hD := hD0.self (sz := s.heap.size)
  generalize hAe : va_A [(h0, .inr (11, [.ref a0, .ref a1, .ref a2, .ref a3, .ref a4, .ref a5, .ref a6, .ref a7, .ref a8, .ref a9, .ref a10, .ref a11, .ref a12, .ref a13, .ref a14])), (a0, .inr (9, [.ref yb, .ref rd, .int 0, .int 0, .int (-1), .int 0, .int 0, .int 0, .int 0, .int 0]))] s.heap.size = A at hD ⊢
  have hA : ∀ q : Nat, s.heap.size ≤ q → A q := fun q h => by rw [← hAe]; exact Or.inr h
  have hS : va_S A s.heap s.heap [] := va_S.rf
  have hP : va_P (dC, dI) vwCl [(h0, .inr (11, [.ref a0, .ref a1, .ref a2, .ref a3, .ref a4, .ref a5, .ref a6, .ref a7, .ref a8, .ref a9, .ref a10, .ref a11, .ref a12, .ref a13, .ref a14])), (a0, .inr (9, [.ref yb, .ref rd, .int 0, .int 0, .int (-1), .int 0, .int 0, .int 0, .int 0, .int 0]))] s.heap := hP
  have hl := lv_entry ([.ref h0, .int p1]) (n := 2) (Nat.le_of_ble_eq_true rfl)
  rw [lg_entry_eq]
  generalize (lg_sl ([.ref h0, .int p1]) ++ List.replicate (2 - (lg_sl ([.ref h0, .int p1])).length) Slot.unset).toArray = ls at hl ⊢
  have hl : lv_has ls 2 [(0, .ref h0), (1, .int p1)] := hl
  refine lv_iload_n hx hb dX11_end_0 rfl (lv_at hl 1 rfl) ?_
  refine lv_if_lt (tgt := 15) hx hb dX11_end_1 (by decide) (fun cz1 => ?_) (fun cz1 => ?_)
  · skip
    refine lv_iconst (v := (-1)) hx hb dX11_end_15 (by decide) ?_
    exact W.iret (v := (-1)) hx hb hr (fun t ht hW => ⟨⟨(-1), (), rfl, Or.inl ⟨rfl, cz1⟩, trivial⟩, hS.F ht⟩) hS.2.2 dX11_end_16
  · skip
    refine lv_iload_n hx hb dX11_end_4 rfl (lv_at hl 1 rfl) ?_
    refine lv_aload_n hx hb dX11_end_5 rfl (lv_at hl 0 rfl) ?_
    refine va_get (D := (dC, dI)) (ci := 11) (v := .ref a0) (C := RX11) (T := TX11) (N := 15) hx hb hts (fun w h => List.mem_cons_of_mem _ (List.mem_append_right _ (List.mem_append_left _ h))) hown hK hP 0 rfl rfl 0 (by decide) (hts (.fieldLink RX11 10 "SagMemory" "tape" "LSagMemory$Tape;") (wl_mem 0 rfl)) (fun _ h9 => h9) rfl dX11_end_6 ?_
    refine va_get (D := (dC, dI)) (ci := 9) (v := .int 0) (C := RX9) (T := TX9) (N := 10) hx hb hts (fun w h => List.mem_cons_of_mem _ (List.mem_append_right _ (List.mem_append_right _ (List.mem_append_left _ h)))) hown hK hP 1 rfl rfl 2 (by decide) (hts (.fieldLink RX11 97 "SagMemory$Tape" "length" "I") (wl_mem 1 rfl)) (fun _ h9 => h9) rfl dX11_end_9 ?_
    refine lv_icmp_le (tgt := 17) hx hb dX11_end_12 (by decide) (fun cz2 => ?_) (fun cz2 => ?_)
    · skip
      refine lv_aload_n hx hb dX11_end_17 rfl (lv_at hl 0 rfl) ?_
      refine va_get (D := (dC, dI)) (ci := 11) (v := .ref a0) (C := RX11) (T := TX11) (N := 15) hx hb hts (fun w h => List.mem_cons_of_mem _ (List.mem_append_right _ (List.mem_append_left _ h))) hown hK hP 0 rfl rfl 0 (by decide) (hts (.fieldLink RX11 10 "SagMemory" "tape" "LSagMemory$Tape;") (wl_mem 0 rfl)) (fun _ h9 => h9) rfl dX11_end_18 ?_
      refine lv_iload_n hx hb dX11_end_21 rfl (lv_at hl 1 rfl) ?_
      refine va_put (D := (dC, dI)) (ci := 9) (v := .int p1) (ty := .int) (C := RX9) (T := TX9) (N := 10) hx hb hts (fun w h => List.mem_cons_of_mem _ (List.mem_append_right _ (List.mem_append_right _ (List.mem_append_left _ h)))) tyX9 tyX9_ok nmX9 hown hK hP hD hS 1 rfl rfl 2 (by decide) (hts (.fieldLink RX11 97 "SagMemory$Tape" "length" "I") (wl_mem 1 rfl)) (fun _ h9 => h9) rfl (by decide +kernel) rfl rfl (Nat.le_of_ble_eq_true rfl) dX11_end_22 (fun H locs hP hD hS => ?_)
      have hP : va_P (dC, dI) vwCl [(h0, .inr (11, [.ref a0, .ref a1, .ref a2, .ref a3, .ref a4, .ref a5, .ref a6, .ref a7, .ref a8, .ref a9, .ref a10, .ref a11, .ref a12, .ref a13, .ref a14])), (a0, .inr (9, [.ref yb, .ref rd, .int p1, .int 0, .int (-1), .int 0, .int 0, .int 0, .int 0, .int 0]))] H := hP
      have hD : va_D A [(h0, .inr (11, [.ref a0, .ref a1, .ref a2, .ref a3, .ref a4, .ref a5, .ref a6, .ref a7, .ref a8, .ref a9, .ref a10, .ref a11, .ref a12, .ref a13, .ref a14])), (a0, .inr (9, [.ref yb, .ref rd, .int p1, .int 0, .int (-1), .int 0, .int 0, .int 0, .int 0, .int 0]))] := hD
      refine lv_iload_n hx hb dX11_end_25 rfl (lv_at hl 1 rfl) ?_
      exact W.iret (v := p1) hx hb hr (fun t ht hW => ⟨⟨p1, (), rfl, Or.inr (Or.inl ⟨rfl, cz1, cz2⟩), trivial⟩, hS.F ht⟩) hS.2.2 dX11_end_26
    · skip
      refine lv_iconst (v := (-1)) hx hb dX11_end_15 (by decide) ?_
      exact W.iret (v := (-1)) hx hb hr (fun t ht hW => ⟨⟨(-1), (), rfl, Or.inr (Or.inr (⟨rfl, cz1, cz2⟩)), trivial⟩, hS.F ht⟩) hS.2.2 dX11_end_16
def wk_f_X11_fault : List Cond := .code yX11_fault cX11_fault 2 (some .int) :: ([.fieldLink RX11 10 "SagMemory" "tape" "LSagMemory$Tape;", .fieldLink RX11 128 "SagMemory$Tape" "place" "I", .fieldLink RX11 125 "SagMemory$Tape" "fault" "I"] ++ (wsX110 ++ (wsX90 ++ [])))
theorem wkg_f_X11_fault : wk_f_X11_fault.all goodWord = true := by decide +kernel
set_option maxHeartbeats 4000000 in
set_option maxRecDepth 100000 in
theorem f_X11_fault (l : Launch) (dC : Nat → ClassId) (dI : Nat → Nat → Nat) (h0 : Nat) (a0 : Nat) (a1 : Nat) (a2 : Nat) (a3 : Nat) (a4 : Nat) (a5 : Nat) (a6 : Nat) (a7 : Nat) (a8 : Nat) (a9 : Nat) (a10 : Nat) (a11 : Nat) (a12 : Nat) (a13 : Nat) (a14 : Nat) (yb : Nat) (rd : Nat) (p1 : Int32) : Met l yX11_fault wk_f_X11_fault ({ frames := 0, cells := 0, slots := 0, locals := 0 }) (va_Pc [.ref h0, .int p1] (fun U => va_P (dC, dI) vwCl [(h0, .inr (11, [.ref a0, .ref a1, .ref a2, .ref a3, .ref a4, .ref a5, .ref a6, .ref a7, .ref a8, .ref a9, .ref a10, .ref a11, .ref a12, .ref a13, .ref a14])), (a0, .inr (9, [.ref yb, .ref rd, .int 0, .int 0, .int (-1), .int 0, .int 0, .int 0, .int 0, .int 0]))] U.heap ∧ va_K (dC, dI) vwCl [] U)) (vp_Si (fun r : Int32 => (r = (-1) ∧ ¬ p1 = (0 : Int32) ∧ ¬ p1 = (1 : Int32)) ∨ (r = (-1) ∧ ¬ p1 = (0 : Int32) ∧ p1 = (1 : Int32)) ∨ (r = 0 ∧ p1 = (0 : Int32)))) 0 0 (fun _ => False) := by
  refine Met.ofW (cc := cX11_fault) (maxL := 2) (ret := (some .int)) (by decide) rfl ?_
  intro p e s m args below meth c s₁ B hml hv
  obtain ⟨rfl, hP, hK⟩ := hv
  have hx := B.exec
  have hb := B.bytes
  have hr := B.returns
  have hts := atoms_spec (ws := wk_f_X11_fault) B.pre
  have hown : s.vm.findClass RX11 = some m.cls := findClass_of_methodNamed B.named
  have hlocks := B.notSynchronized
  have hl := lv_entry ([.ref h0, .int p1]) (n := 2) (Nat.le_of_ble_eq_true rfl)
  rw [lg_entry_eq]
  generalize (lg_sl ([.ref h0, .int p1]) ++ List.replicate (2 - (lg_sl ([.ref h0, .int p1])).length) Slot.unset).toArray = ls at hl ⊢
  have hl : lv_has ls 2 [(0, .ref h0), (1, .int p1)] := hl
  refine lv_iload_n hx hb dX11_fault_0 rfl (lv_at hl 1 rfl) ?_
  refine lv_if_ne (tgt := 12) hx hb dX11_fault_1 (by decide) (fun cz1 => ?_) (fun cz1 => ?_)
  · skip
    refine lv_iload_n hx hb dX11_fault_12 rfl (lv_at hl 1 rfl) ?_
    refine lv_iconst (v := 1) hx hb dX11_fault_13 (by decide) ?_
    refine lv_icmp_ne (tgt := 27) hx hb dX11_fault_14 (by decide) (fun cz2 => ?_) (fun cz2 => ?_)
    · skip
      refine lv_iconst (v := (-1)) hx hb dX11_fault_27 (by decide) ?_
      exact W.iret (v := (-1)) hx hb hr (fun t ht hW => ⟨(-1), rfl, Or.inl ⟨rfl, cz1, cz2⟩, ht⟩) (fun _ h => absurd h List.not_mem_nil) dX11_fault_28
    · skip
      refine lv_aload_n hx hb dX11_fault_17 rfl (lv_at hl 0 rfl) ?_
      refine va_get (D := (dC, dI)) (ci := 11) (v := .ref a0) (C := RX11) (T := TX11) (N := 15) hx hb hts (fun w h => List.mem_cons_of_mem _ (List.mem_append_right _ (List.mem_append_left _ h))) hown hK hP 0 rfl rfl 0 (by decide) (hts (.fieldLink RX11 10 "SagMemory" "tape" "LSagMemory$Tape;") (wl_mem 0 rfl)) (fun _ h9 => h9) rfl dX11_fault_18 ?_
      refine va_get (D := (dC, dI)) (ci := 9) (v := .int (-1)) (C := RX9) (T := TX9) (N := 10) hx hb hts (fun w h => List.mem_cons_of_mem _ (List.mem_append_right _ (List.mem_append_right _ (List.mem_append_left _ h)))) hown hK hP 1 rfl rfl 4 (by decide) (hts (.fieldLink RX11 128 "SagMemory$Tape" "place" "I") (wl_mem 1 rfl)) (fun _ h9 => h9) rfl dX11_fault_21 ?_
      refine lv_goto (tgt := 28) hx hb dX11_fault_24 (by decide) ?_
      exact W.iret (v := (-1)) hx hb hr (fun t ht hW => ⟨(-1), rfl, Or.inr (Or.inl ⟨rfl, cz1, cz2⟩), ht⟩) (fun _ h => absurd h List.not_mem_nil) dX11_fault_28
  · skip
    refine lv_aload_n hx hb dX11_fault_4 rfl (lv_at hl 0 rfl) ?_
    refine va_get (D := (dC, dI)) (ci := 11) (v := .ref a0) (C := RX11) (T := TX11) (N := 15) hx hb hts (fun w h => List.mem_cons_of_mem _ (List.mem_append_right _ (List.mem_append_left _ h))) hown hK hP 0 rfl rfl 0 (by decide) (hts (.fieldLink RX11 10 "SagMemory" "tape" "LSagMemory$Tape;") (wl_mem 0 rfl)) (fun _ h9 => h9) rfl dX11_fault_5 ?_
    refine va_get (D := (dC, dI)) (ci := 9) (v := .int 0) (C := RX9) (T := TX9) (N := 10) hx hb hts (fun w h => List.mem_cons_of_mem _ (List.mem_append_right _ (List.mem_append_right _ (List.mem_append_left _ h)))) hown hK hP 1 rfl rfl 3 (by decide) (hts (.fieldLink RX11 125 "SagMemory$Tape" "fault" "I") (wl_mem 2 rfl)) (fun _ h9 => h9) rfl dX11_fault_8 ?_
    exact W.iret (v := 0) hx hb hr (fun t ht hW => ⟨0, rfl, Or.inr (Or.inr (⟨rfl, cz1⟩)), ht⟩) (fun _ h => absurd h List.not_mem_nil) dX11_fault_11
def wk_f_X11_valley : List Cond := .code yX11_valley cX11_valley 1 (some .int) :: ([.fieldLink RX11 10 "SagMemory" "tape" "LSagMemory$Tape;", .methodLink RX11 105 yX9_parse, .instanceMethod yX9_parse, .selects RX9 yX9_parse yX9_parse, .initialized RX9, .fieldLink RX11 19 "SagMemory" "told" "LSagMemory$Valley;", .fieldLink RX11 109 "SagMemory$Tape" "read" "LSagMemory$Valley;", .methodLink RX11 112 yX10_take, .instanceMethod yX10_take, .selects RX10 yX10_take yX10_take, .initialized RX10, .fieldLink RX11 26 "SagMemory" "acts" "LSagMemory$Acts;", .fieldLink RX11 116 "SagMemory$Acts" "done" "I", .fieldLink RX11 97 "SagMemory$Tape" "length" "I", .methodLink RX11 119 yX11_renew, .instanceMethod yX11_renew, .selects RX11 yX11_renew yX11_renew, .initialized RX11, .fieldLink RX11 122 "SagMemory$Valley" "lines" "I"] ++ (wsX110 ++ (wk_f_X9_parse ++ (wsX90 ++ (wk_f_X10_take ++ (wsX00 ++ (wk_f_X11_renew ++ (wsX100 ++ []))))))))
theorem wkg_f_X11_valley : wk_f_X11_valley.all goodWord = true := by decide +kernel
set_option maxHeartbeats 4000000 in
set_option maxRecDepth 100000 in
theorem f_X11_valley (l : Launch) (dC : Nat → ClassId) (dI : Nat → Nat → Nat) (sz : Nat) (h0 : Nat) (a0 : Nat) (a1 : Nat) (a2 : Nat) (a3 : Nat) (a4 : Nat) (a5 : Nat) (a6 : Nat) (a7 : Nat) (a8 : Nat) (a9 : Nat) (a10 : Nat) (a11 : Nat) (a12 : Nat) (a13 : Nat) (a14 : Nat) (yb : Nat) (rd : Nat) (s2 : Nat) (s3 : Nat) (o0 : Nat) (o1 : Nat) (u0 : Nat) (u1 : Nat) (r0 : Nat) (r1 : Nat) (b0 : Nat) (b1 : Nat) (b2 : Nat) (j0 : ClassId) (j1 : ClassId) (i0 : Nat → Int32) (i1 : Nat → Int32) (v0 : Nat) (v1 : Nat) (v2 : Nat) (v3 : Nat) (v4 : Nat) (v5 : Nat) (v6 : Nat) (k0 : ClassId) (k1 : ClassId) (k2 : ClassId) (k3 : ClassId) (k4 : ClassId) (k5 : ClassId) (k6 : ClassId) (f0 : Nat → Int32) (f1 : Nat → Int32) (f2 : Nat → Int32) (f3 : Nat → Int32) (f4 : Nat → Int32) (f5 : Nat → Int32) (f6 : Nat → Int32) (w0 : Nat) (w1 : Nat) (w2 : Nat) (w3 : Nat) (w4 : Nat) (w5 : Nat) (w6 : Nat) (l_0 : ClassId) (l_1 : ClassId) (l_2 : ClassId) (l_3 : ClassId) (l_4 : ClassId) (l_5 : ClassId) (l_6 : ClassId) (g0 : Nat → Int32) (g1 : Nat → Int32) (g2 : Nat → Int32) (g3 : Nat → Int32) (g4 : Nat → Int32) (g5 : Nat → Int32) (g6 : Nat → Int32) : Met l yX11_valley wk_f_X11_valley ({ frames := 3, cells := 0, slots := 0, locals := 124 }) (va_Pc [.ref h0] (fun U => U.heap.size = sz ∧ va_P (dC, dI) vwCl [(h0, .inr (11, [.ref a0, .ref a1, .ref a2, .ref a3, .ref a4, .ref a5, .ref a6, .ref a7, .ref a8, .ref a9, .ref a10, .ref a11, .ref a12, .ref a13, .ref a14])), (a0, .inr (9, [.ref yb, .ref rd, .int 0, .int 0, .int (-1), .int 0, .int 0, .int 0, .int 0, .int 0])), (a5, .inr (8, [.ref a1, .ref a3, .ref s2, .ref s3])), (a7, .inr (4, [.ref o0, .ref o1, .int 0, .int 0, .int 0, .int 0])), (a8, .inr (4, [.ref u0, .ref u1, .int 0, .int 0, .int 0, .int 0])), (a3, .inr (3, [.ref r0, .ref r1, .int 0, .int 0])), (r0, .inl (j0, 7, .inl i0)), (r1, .inl (j1, 7, .inl i1)), (a2, .inr (0, [.ref b0, .ref b1, .ref b2, .int 0])), (a1, .inr (10, [.ref v0, .ref v1, .ref v2, .ref v3, .ref v4, .ref v5, .ref v6, .int 0, .int 0, .int 0, .int 0, .int 0, .int 0, .int 0, .int 0, .int 0])), (v0, .inl (k0, 3, .inl f0)), (v1, .inl (k1, 3, .inl f1)), (v2, .inl (k2, 7, .inl f2)), (v3, .inl (k3, 7, .inl f3)), (v4, .inl (k4, 5, .inl f4)), (v5, .inl (k5, 5, .inl f5)), (v6, .inl (k6, 5, .inl f6)), (rd, .inr (10, [.ref w0, .ref w1, .ref w2, .ref w3, .ref w4, .ref w5, .ref w6, .int 0, .int 0, .int 0, .int 0, .int 0, .int 0, .int 0, .int 0, .int 0])), (w0, .inl (l_0, 3, .inl g0)), (w1, .inl (l_1, 3, .inl g1)), (w2, .inl (l_2, 7, .inl g2)), (w3, .inl (l_3, 7, .inl g3)), (w4, .inl (l_4, 5, .inl g4)), (w5, .inl (l_5, 5, .inl g5)), (w6, .inl (l_6, 5, .inl g6))] U.heap ∧ va_K (dC, dI) vwCl [(j0, .int), (j1, .int), (k0, .int), (k1, .int), (k2, .int), (k3, .int), (k4, .int), (k5, .int), (k6, .int), (l_0, .int), (l_1, .int), (l_2, .int), (l_3, .int), (l_4, .int), (l_5, .int), (l_6, .int)] U ∧ va_D (fun _ => True) [(h0, .inr (11, [.ref a0, .ref a1, .ref a2, .ref a3, .ref a4, .ref a5, .ref a6, .ref a7, .ref a8, .ref a9, .ref a10, .ref a11, .ref a12, .ref a13, .ref a14])), (a0, .inr (9, [.ref yb, .ref rd, .int 0, .int 0, .int (-1), .int 0, .int 0, .int 0, .int 0, .int 0])), (a5, .inr (8, [.ref a1, .ref a3, .ref s2, .ref s3])), (a7, .inr (4, [.ref o0, .ref o1, .int 0, .int 0, .int 0, .int 0])), (a8, .inr (4, [.ref u0, .ref u1, .int 0, .int 0, .int 0, .int 0])), (a3, .inr (3, [.ref r0, .ref r1, .int 0, .int 0])), (r0, .inl (j0, 7, .inl i0)), (r1, .inl (j1, 7, .inl i1)), (a2, .inr (0, [.ref b0, .ref b1, .ref b2, .int 0])), (a1, .inr (10, [.ref v0, .ref v1, .ref v2, .ref v3, .ref v4, .ref v5, .ref v6, .int 0, .int 0, .int 0, .int 0, .int 0, .int 0, .int 0, .int 0, .int 0])), (v0, .inl (k0, 3, .inl f0)), (v1, .inl (k1, 3, .inl f1)), (v2, .inl (k2, 7, .inl f2)), (v3, .inl (k3, 7, .inl f3)), (v4, .inl (k4, 5, .inl f4)), (v5, .inl (k5, 5, .inl f5)), (v6, .inl (k6, 5, .inl f6)), (rd, .inr (10, [.ref w0, .ref w1, .ref w2, .ref w3, .ref w4, .ref w5, .ref w6, .int 0, .int 0, .int 0, .int 0, .int 0, .int 0, .int 0, .int 0, .int 0])), (w0, .inl (l_0, 3, .inl g0)), (w1, .inl (l_1, 3, .inl g1)), (w2, .inl (l_2, 7, .inl g2)), (w3, .inl (l_3, 7, .inl g3)), (w4, .inl (l_4, 5, .inl g4)), (w5, .inl (l_5, 5, .inl g5)), (w6, .inl (l_6, 5, .inl g6))])) (va_Qi (fun (r : Int32) (_ : Unit) => r = 0) (fun (_ : Unit) (_ : State) => True) (va_A [(h0, .inr (11, [.ref a0, .ref a1, .ref a2, .ref a3, .ref a4, .ref a5, .ref a6, .ref a7, .ref a8, .ref a9, .ref a10, .ref a11, .ref a12, .ref a13, .ref a14])), (a0, .inr (9, [.ref yb, .ref rd, .int 0, .int 0, .int (-1), .int 0, .int 0, .int 0, .int 0, .int 0])), (a5, .inr (8, [.ref a1, .ref a3, .ref s2, .ref s3])), (a7, .inr (4, [.ref o0, .ref o1, .int 0, .int 0, .int 0, .int 0])), (a8, .inr (4, [.ref u0, .ref u1, .int 0, .int 0, .int 0, .int 0])), (a3, .inr (3, [.ref r0, .ref r1, .int 0, .int 0])), (r0, .inl (j0, 7, .inl i0)), (r1, .inl (j1, 7, .inl i1)), (a2, .inr (0, [.ref b0, .ref b1, .ref b2, .int 0])), (a1, .inr (10, [.ref v0, .ref v1, .ref v2, .ref v3, .ref v4, .ref v5, .ref v6, .int 0, .int 0, .int 0, .int 0, .int 0, .int 0, .int 0, .int 0, .int 0])), (v0, .inl (k0, 3, .inl f0)), (v1, .inl (k1, 3, .inl f1)), (v2, .inl (k2, 7, .inl f2)), (v3, .inl (k3, 7, .inl f3)), (v4, .inl (k4, 5, .inl f4)), (v5, .inl (k5, 5, .inl f5)), (v6, .inl (k6, 5, .inl f6)), (rd, .inr (10, [.ref w0, .ref w1, .ref w2, .ref w3, .ref w4, .ref w5, .ref w6, .int 0, .int 0, .int 0, .int 0, .int 0, .int 0, .int 0, .int 0, .int 0])), (w0, .inl (l_0, 3, .inl g0)), (w1, .inl (l_1, 3, .inl g1)), (w2, .inl (l_2, 7, .inl g2)), (w3, .inl (l_3, 7, .inl g3)), (w4, .inl (l_4, 5, .inl g4)), (w5, .inl (l_5, 5, .inl g5)), (w6, .inl (l_6, 5, .inl g6))] sz)) 0 0 (va_A [(h0, .inr (11, [.ref a0, .ref a1, .ref a2, .ref a3, .ref a4, .ref a5, .ref a6, .ref a7, .ref a8, .ref a9, .ref a10, .ref a11, .ref a12, .ref a13, .ref a14])), (a0, .inr (9, [.ref yb, .ref rd, .int 0, .int 0, .int (-1), .int 0, .int 0, .int 0, .int 0, .int 0])), (a5, .inr (8, [.ref a1, .ref a3, .ref s2, .ref s3])), (a7, .inr (4, [.ref o0, .ref o1, .int 0, .int 0, .int 0, .int 0])), (a8, .inr (4, [.ref u0, .ref u1, .int 0, .int 0, .int 0, .int 0])), (a3, .inr (3, [.ref r0, .ref r1, .int 0, .int 0])), (r0, .inl (j0, 7, .inl i0)), (r1, .inl (j1, 7, .inl i1)), (a2, .inr (0, [.ref b0, .ref b1, .ref b2, .int 0])), (a1, .inr (10, [.ref v0, .ref v1, .ref v2, .ref v3, .ref v4, .ref v5, .ref v6, .int 0, .int 0, .int 0, .int 0, .int 0, .int 0, .int 0, .int 0, .int 0])), (v0, .inl (k0, 3, .inl f0)), (v1, .inl (k1, 3, .inl f1)), (v2, .inl (k2, 7, .inl f2)), (v3, .inl (k3, 7, .inl f3)), (v4, .inl (k4, 5, .inl f4)), (v5, .inl (k5, 5, .inl f5)), (v6, .inl (k6, 5, .inl f6)), (rd, .inr (10, [.ref w0, .ref w1, .ref w2, .ref w3, .ref w4, .ref w5, .ref w6, .int 0, .int 0, .int 0, .int 0, .int 0, .int 0, .int 0, .int 0, .int 0])), (w0, .inl (l_0, 3, .inl g0)), (w1, .inl (l_1, 3, .inl g1)), (w2, .inl (l_2, 7, .inl g2)), (w3, .inl (l_3, 7, .inl g3)), (w4, .inl (l_4, 5, .inl g4)), (w5, .inl (l_5, 5, .inl g5)), (w6, .inl (l_6, 5, .inl g6))] sz) := by
  refine Met.ofW (cc := cX11_valley) (maxL := 1) (ret := (some .int)) (by decide) rfl ?_
  intro p e s m args below meth c s₁ B hml hv
  obtain ⟨rfl, hsz, hP, hK, hD0⟩ := hv
  have hx := B.exec
  have hb := B.bytes
  have hr := B.returns
  have hts := atoms_spec (ws := wk_f_X11_valley) B.pre
  have hown : s.vm.findClass RX11 = some m.cls := findClass_of_methodNamed B.named
  have hlocks := B.notSynchronized
  subst hsz
  have hD := hD0.self (sz := s.heap.size)
  generalize hAe : va_A [(h0, .inr (11, [.ref a0, .ref a1, .ref a2, .ref a3, .ref a4, .ref a5, .ref a6, .ref a7, .ref a8, .ref a9, .ref a10, .ref a11, .ref a12, .ref a13, .ref a14])), (a0, .inr (9, [.ref yb, .ref rd, .int 0, .int 0, .int (-1), .int 0, .int 0, .int 0, .int 0, .int 0])), (a5, .inr (8, [.ref a1, .ref a3, .ref s2, .ref s3])), (a7, .inr (4, [.ref o0, .ref o1, .int 0, .int 0, .int 0, .int 0])), (a8, .inr (4, [.ref u0, .ref u1, .int 0, .int 0, .int 0, .int 0])), (a3, .inr (3, [.ref r0, .ref r1, .int 0, .int 0])), (r0, .inl (j0, 7, .inl i0)), (r1, .inl (j1, 7, .inl i1)), (a2, .inr (0, [.ref b0, .ref b1, .ref b2, .int 0])), (a1, .inr (10, [.ref v0, .ref v1, .ref v2, .ref v3, .ref v4, .ref v5, .ref v6, .int 0, .int 0, .int 0, .int 0, .int 0, .int 0, .int 0, .int 0, .int 0])), (v0, .inl (k0, 3, .inl f0)), (v1, .inl (k1, 3, .inl f1)), (v2, .inl (k2, 7, .inl f2)), (v3, .inl (k3, 7, .inl f3)), (v4, .inl (k4, 5, .inl f4)), (v5, .inl (k5, 5, .inl f5)), (v6, .inl (k6, 5, .inl f6)), (rd, .inr (10, [.ref w0, .ref w1, .ref w2, .ref w3, .ref w4, .ref w5, .ref w6, .int 0, .int 0, .int 0, .int 0, .int 0, .int 0, .int 0, .int 0, .int 0])), (w0, .inl (l_0, 3, .inl g0)), (w1, .inl (l_1, 3, .inl g1)), (w2, .inl (l_2, 7, .inl g2)), (w3, .inl (l_3, 7, .inl g3)), (w4, .inl (l_4, 5, .inl g4)), (w5, .inl (l_5, 5, .inl g5)), (w6, .inl (l_6, 5, .inl g6))] s.heap.size = A at hD ⊢
  have hA : ∀ q : Nat, s.heap.size ≤ q → A q := fun q h => by rw [← hAe]; exact Or.inr h
  have hS : va_S A s.heap s.heap [] := va_S.rf
  have hP : va_P (dC, dI) vwCl [(h0, .inr (11, [.ref a0, .ref a1, .ref a2, .ref a3, .ref a4, .ref a5, .ref a6, .ref a7, .ref a8, .ref a9, .ref a10, .ref a11, .ref a12, .ref a13, .ref a14])), (a0, .inr (9, [.ref yb, .ref rd, .int 0, .int 0, .int (-1), .int 0, .int 0, .int 0, .int 0, .int 0])), (a5, .inr (8, [.ref a1, .ref a3, .ref s2, .ref s3])), (a7, .inr (4, [.ref o0, .ref o1, .int 0, .int 0, .int 0, .int 0])), (a8, .inr (4, [.ref u0, .ref u1, .int 0, .int 0, .int 0, .int 0])), (a3, .inr (3, [.ref r0, .ref r1, .int 0, .int 0])), (r0, .inl (j0, 7, .inl i0)), (r1, .inl (j1, 7, .inl i1)), (a2, .inr (0, [.ref b0, .ref b1, .ref b2, .int 0])), (a1, .inr (10, [.ref v0, .ref v1, .ref v2, .ref v3, .ref v4, .ref v5, .ref v6, .int 0, .int 0, .int 0, .int 0, .int 0, .int 0, .int 0, .int 0, .int 0])), (v0, .inl (k0, 3, .inl f0)), (v1, .inl (k1, 3, .inl f1)), (v2, .inl (k2, 7, .inl f2)), (v3, .inl (k3, 7, .inl f3)), (v4, .inl (k4, 5, .inl f4)), (v5, .inl (k5, 5, .inl f5)), (v6, .inl (k6, 5, .inl f6)), (rd, .inr (10, [.ref w0, .ref w1, .ref w2, .ref w3, .ref w4, .ref w5, .ref w6, .int 0, .int 0, .int 0, .int 0, .int 0, .int 0, .int 0, .int 0, .int 0])), (w0, .inl (l_0, 3, .inl g0)), (w1, .inl (l_1, 3, .inl g1)), (w2, .inl (l_2, 7, .inl g2)), (w3, .inl (l_3, 7, .inl g3)), (w4, .inl (l_4, 5, .inl g4)), (w5, .inl (l_5, 5, .inl g5)), (w6, .inl (l_6, 5, .inl g6))] s.heap := hP
  have hl := lv_entry ([.ref h0]) (n := 1) (Nat.le_of_ble_eq_true rfl)
  rw [lg_entry_eq]
  generalize (lg_sl ([.ref h0]) ++ List.replicate (1 - (lg_sl ([.ref h0])).length) Slot.unset).toArray = ls at hl ⊢
  have hl : lv_has ls 1 [(0, .ref h0)] := hl
  refine lv_aload_n hx hb dX11_valley_0 rfl (lv_at hl 0 rfl) ?_
  refine va_get (D := (dC, dI)) (ci := 11) (v := .ref a0) (C := RX11) (T := TX11) (N := 15) hx hb hts (fun w h => List.mem_cons_of_mem _ (List.mem_append_right _ (List.mem_append_left _ h))) hown hK hP 0 rfl rfl 0 (by decide) (hts (.fieldLink RX11 10 "SagMemory" "tape" "LSagMemory$Tape;") (wl_mem 0 rfl)) (fun _ h9 => h9) rfl dX11_valley_1 ?_
  have hPc := hP.sub (ws' := [(a0, .inr (9, [.ref yb, .ref rd, .int 0, .int 0, .int (-1), .int 0, .int 0, .int 0, .int 0, .int 0])), (rd, .inr (10, [.ref w0, .ref w1, .ref w2, .ref w3, .ref w4, .ref w5, .ref w6, .int 0, .int 0, .int 0, .int 0, .int 0, .int 0, .int 0, .int 0, .int 0]))]) [1, 17] rfl
  have hKc := hK.sub (tys' := []) [] rfl
  have hDc := hD.sub (ws' := [(a0, .inr (9, [.ref yb, .ref rd, .int 0, .int 0, .int (-1), .int 0, .int 0, .int 0, .int 0, .int 0])), (rd, .inr (10, [.ref w0, .ref w1, .ref w2, .ref w3, .ref w4, .ref w5, .ref w6, .int 0, .int 0, .int 0, .int 0, .int 0, .int 0, .int 0, .int 0, .int 0]))]) [1, 17] (by decide) rfl
  have hFc := va_free (wc := [(a0, .inr (9, [.ref yb, .ref rd, .int 0, .int 0, .int (-1), .int 0, .int 0, .int 0, .int 0, .int 0])), (rd, .inr (10, [.ref w0, .ref w1, .ref w2, .ref w3, .ref w4, .ref w5, .ref w6, .int 0, .int 0, .int 0, .int 0, .int 0, .int 0, .int 0, .int 0, .int 0]))]) hD hS hA [1, 17] rfl
  refine va_calli (va_runV (As := []) (rest := []) ⟨hx, hb, hml, hown, hts⟩ (f_X9_parse l dC dI s.heap.size a0 yb rd w0 w1 w2 w3 w4 w5 w6) (cwV 0 hts (gk_V (wl_mem 1 rfl) (wl_mem 2 rfl) (wl_mem 3 rfl) (wl_mem 4 rfl) (fun w h => List.mem_cons_of_mem _ (List.mem_append_right _ (List.mem_append_right _ (List.mem_append_left _ h)))) wkg_f_X9_parse) rfl rfl rfl (by decide +kernel) ⟨Nat.le_of_ble_eq_true rfl, Nat.le_of_ble_eq_true rfl⟩) ⟨fun a U g mk q => by obtain ⟨q0, q1, qP, qK, qD⟩ := q; exact ⟨q0, q1, qP, va_K.moved (u := U) (U := U.calling g mk a) (Vm.Alike.refl U.vm) qK, qD⟩, va_recv hKc hPc (ci := 9) (q0 := 0) rfl rfl, fun U hU hW => ⟨rfl, by rw [hU], by rw [hU]; exact hPc, va_K.moved hW.alike hKc, hDc.weaken (fun _ _ _ _ => trivial)⟩⟩ rfl rfl hl.1 rfl (lv_room (Nat.le_of_ble_eq_true rfl)) dX11_valley_4 ⟨Nat.le_of_ble_eq_true rfl, Nat.le_of_ble_eq_true rfl⟩) hS (fun q _ h => hFc q h) hFc (fun rz2 u t H1 locs ht hvm gz1 hB hz1 hk1 hS => ?_)
  obtain ⟨hP1, hK1, hD1⟩ := hB
  rw [ht] at hP1
  have hK1 := va_K.moved hvm.symm hK1
  obtain ⟨hP, hD⟩ := va_join (wr := [(h0, .inr (11, [.ref a0, .ref a1, .ref a2, .ref a3, .ref a4, .ref a5, .ref a6, .ref a7, .ref a8, .ref a9, .ref a10, .ref a11, .ref a12, .ref a13, .ref a14])), (a5, .inr (8, [.ref a1, .ref a3, .ref s2, .ref s3])), (a7, .inr (4, [.ref o0, .ref o1, .int 0, .int 0, .int 0, .int 0])), (a8, .inr (4, [.ref u0, .ref u1, .int 0, .int 0, .int 0, .int 0])), (a3, .inr (3, [.ref r0, .ref r1, .int 0, .int 0])), (r0, .inl (j0, 7, .inl i0)), (r1, .inl (j1, 7, .inl i1)), (a2, .inr (0, [.ref b0, .ref b1, .ref b2, .int 0])), (a1, .inr (10, [.ref v0, .ref v1, .ref v2, .ref v3, .ref v4, .ref v5, .ref v6, .int 0, .int 0, .int 0, .int 0, .int 0, .int 0, .int 0, .int 0, .int 0])), (v0, .inl (k0, 3, .inl f0)), (v1, .inl (k1, 3, .inl f1)), (v2, .inl (k2, 7, .inl f2)), (v3, .inl (k3, 7, .inl f3)), (v4, .inl (k4, 5, .inl f4)), (v5, .inl (k5, 5, .inl f5)), (v6, .inl (k6, 5, .inl f6)), (w0, .inl (l_0, 3, .inl g0)), (w1, .inl (l_1, 3, .inl g1)), (w2, .inl (l_2, 7, .inl g2)), (w3, .inl (l_3, 7, .inl g3)), (w4, .inl (l_4, 5, .inl g4)), (w5, .inl (l_5, 5, .inl g5)), (w6, .inl (l_6, 5, .inl g6))]) (w1 := [(a0, .inr (9, [.ref yb, .ref rd, .int 0, .int 0, .int (-1), .int 0, .int 0, .int 0, .int 0, .int 0])), (rd, .inr (10, [.ref w0, .ref w1, .ref w2, .ref w3, .ref w4, .ref w5, .ref w6, .int 0, .int 0, .int 0, .int 0, .int 0, .int 0, .int 0, .int 0, .int 0]))]) hP hD [1, 17] [0, 2, 3, 4, 5, 6, 7, 8, 9, 10, 11, 12, 13, 14, 15, 16, 18, 19, 20, 21, 22, 23, 24] rfl rfl (by decide) (by decide) hk1 hFc hP1 hD1
  have hK := (hK.sub (tys' := [(j0, .int), (j1, .int), (k0, .int), (k1, .int), (k2, .int), (k3, .int), (k4, .int), (k5, .int), (k6, .int), (l_0, .int), (l_1, .int), (l_2, .int), (l_3, .int), (l_4, .int), (l_5, .int), (l_6, .int)]) [0, 1, 2, 3, 4, 5, 6, 7, 8, 9, 10, 11, 12, 13, 14, 15] rfl).app hK1
  generalize H1 = H at hP hS ⊢
  have hK : va_K (dC, dI) vwCl [(j0, .int), (j1, .int), (k0, .int), (k1, .int), (k2, .int), (k3, .int), (k4, .int), (k5, .int), (k6, .int), (l_0, .int), (l_1, .int), (l_2, .int), (l_3, .int), (l_4, .int), (l_5, .int), (l_6, .int)] s := hK
  have hP : va_P (dC, dI) vwCl [(h0, .inr (11, [.ref a0, .ref a1, .ref a2, .ref a3, .ref a4, .ref a5, .ref a6, .ref a7, .ref a8, .ref a9, .ref a10, .ref a11, .ref a12, .ref a13, .ref a14])), (a5, .inr (8, [.ref a1, .ref a3, .ref s2, .ref s3])), (a7, .inr (4, [.ref o0, .ref o1, .int 0, .int 0, .int 0, .int 0])), (a8, .inr (4, [.ref u0, .ref u1, .int 0, .int 0, .int 0, .int 0])), (a3, .inr (3, [.ref r0, .ref r1, .int 0, .int 0])), (r0, .inl (j0, 7, .inl i0)), (r1, .inl (j1, 7, .inl i1)), (a2, .inr (0, [.ref b0, .ref b1, .ref b2, .int 0])), (a1, .inr (10, [.ref v0, .ref v1, .ref v2, .ref v3, .ref v4, .ref v5, .ref v6, .int 0, .int 0, .int 0, .int 0, .int 0, .int 0, .int 0, .int 0, .int 0])), (v0, .inl (k0, 3, .inl f0)), (v1, .inl (k1, 3, .inl f1)), (v2, .inl (k2, 7, .inl f2)), (v3, .inl (k3, 7, .inl f3)), (v4, .inl (k4, 5, .inl f4)), (v5, .inl (k5, 5, .inl f5)), (v6, .inl (k6, 5, .inl f6)), (w0, .inl (l_0, 3, .inl g0)), (w1, .inl (l_1, 3, .inl g1)), (w2, .inl (l_2, 7, .inl g2)), (w3, .inl (l_3, 7, .inl g3)), (w4, .inl (l_4, 5, .inl g4)), (w5, .inl (l_5, 5, .inl g5)), (w6, .inl (l_6, 5, .inl g6)), (a0, .inr (9, [.ref yb, .ref rd, .int 0, .int 0, .int (-1), .int 0, .int 0, .int 0, .int 0, .int 0])), (rd, .inr (10, [.ref w0, .ref w1, .ref w2, .ref w3, .ref w4, .ref w5, .ref w6, .int 0, .int 0, .int 0, .int 0, .int 0, .int 0, .int 0, .int 0, .int 0]))] H := hP
  have hD : va_D A [(h0, .inr (11, [.ref a0, .ref a1, .ref a2, .ref a3, .ref a4, .ref a5, .ref a6, .ref a7, .ref a8, .ref a9, .ref a10, .ref a11, .ref a12, .ref a13, .ref a14])), (a5, .inr (8, [.ref a1, .ref a3, .ref s2, .ref s3])), (a7, .inr (4, [.ref o0, .ref o1, .int 0, .int 0, .int 0, .int 0])), (a8, .inr (4, [.ref u0, .ref u1, .int 0, .int 0, .int 0, .int 0])), (a3, .inr (3, [.ref r0, .ref r1, .int 0, .int 0])), (r0, .inl (j0, 7, .inl i0)), (r1, .inl (j1, 7, .inl i1)), (a2, .inr (0, [.ref b0, .ref b1, .ref b2, .int 0])), (a1, .inr (10, [.ref v0, .ref v1, .ref v2, .ref v3, .ref v4, .ref v5, .ref v6, .int 0, .int 0, .int 0, .int 0, .int 0, .int 0, .int 0, .int 0, .int 0])), (v0, .inl (k0, 3, .inl f0)), (v1, .inl (k1, 3, .inl f1)), (v2, .inl (k2, 7, .inl f2)), (v3, .inl (k3, 7, .inl f3)), (v4, .inl (k4, 5, .inl f4)), (v5, .inl (k5, 5, .inl f5)), (v6, .inl (k6, 5, .inl f6)), (w0, .inl (l_0, 3, .inl g0)), (w1, .inl (l_1, 3, .inl g1)), (w2, .inl (l_2, 7, .inl g2)), (w3, .inl (l_3, 7, .inl g3)), (w4, .inl (l_4, 5, .inl g4)), (w5, .inl (l_5, 5, .inl g5)), (w6, .inl (l_6, 5, .inl g6)), (a0, .inr (9, [.ref yb, .ref rd, .int 0, .int 0, .int (-1), .int 0, .int 0, .int 0, .int 0, .int 0])), (rd, .inr (10, [.ref w0, .ref w1, .ref w2, .ref w3, .ref w4, .ref w5, .ref w6, .int 0, .int 0, .int 0, .int 0, .int 0, .int 0, .int 0, .int 0, .int 0]))] := hD
  refine W.widen (k := 0) (n := 0) (Nat.le_of_ble_eq_true rfl) (Nat.le_of_ble_eq_true rfl) ?_
  obtain rfl := gz1
  refine lv_if_ne (tgt := 13) hx hb dX11_valley_7 (by decide) (fun cz3 => ?_) (fun cz3 => ?_)
  · skip
    refine lv_aload_n hx hb dX11_valley_13 rfl (lv_at hl 0 rfl) ?_
    refine va_get (D := (dC, dI)) (ci := 11) (v := .ref a1) (C := RX11) (T := TX11) (N := 15) hx hb hts (fun w h => List.mem_cons_of_mem _ (List.mem_append_right _ (List.mem_append_left _ h))) hown hK hP 0 rfl rfl 1 (by decide) (hts (.fieldLink RX11 19 "SagMemory" "told" "LSagMemory$Valley;") (wl_mem 5 rfl)) (fun _ h9 => h9) rfl dX11_valley_14 ?_
    refine lv_aload_n hx hb dX11_valley_17 rfl (lv_at hl 0 rfl) ?_
    refine va_get (D := (dC, dI)) (ci := 11) (v := .ref a0) (C := RX11) (T := TX11) (N := 15) hx hb hts (fun w h => List.mem_cons_of_mem _ (List.mem_append_right _ (List.mem_append_left _ h))) hown hK hP 0 rfl rfl 0 (by decide) (hts (.fieldLink RX11 10 "SagMemory" "tape" "LSagMemory$Tape;") (wl_mem 0 rfl)) (fun _ h9 => h9) rfl dX11_valley_18 ?_
    refine va_get (D := (dC, dI)) (ci := 9) (v := .ref rd) (C := RX9) (T := TX9) (N := 10) hx hb hts (fun w h => List.mem_cons_of_mem _ (List.mem_append_right _ (List.mem_append_right _ (List.mem_append_right _ (List.mem_append_left _ h))))) hown hK hP 23 rfl rfl 1 (by decide) (hts (.fieldLink RX11 109 "SagMemory$Tape" "read" "LSagMemory$Valley;") (wl_mem 6 rfl)) (fun _ h9 => h9) rfl dX11_valley_21 ?_
    have hPc := hP.sub (ws' := [(a1, .inr (10, [.ref v0, .ref v1, .ref v2, .ref v3, .ref v4, .ref v5, .ref v6, .int 0, .int 0, .int 0, .int 0, .int 0, .int 0, .int 0, .int 0, .int 0])), (v0, .inl (k0, 3, .inl f0)), (v1, .inl (k1, 3, .inl f1)), (v2, .inl (k2, 7, .inl f2)), (v3, .inl (k3, 7, .inl f3)), (v4, .inl (k4, 5, .inl f4)), (v5, .inl (k5, 5, .inl f5)), (v6, .inl (k6, 5, .inl f6)), (rd, .inr (10, [.ref w0, .ref w1, .ref w2, .ref w3, .ref w4, .ref w5, .ref w6, .int 0, .int 0, .int 0, .int 0, .int 0, .int 0, .int 0, .int 0, .int 0])), (w0, .inl (l_0, 3, .inl g0)), (w1, .inl (l_1, 3, .inl g1)), (w2, .inl (l_2, 7, .inl g2)), (w3, .inl (l_3, 7, .inl g3)), (w4, .inl (l_4, 5, .inl g4)), (w5, .inl (l_5, 5, .inl g5)), (w6, .inl (l_6, 5, .inl g6))]) [8, 9, 10, 11, 12, 13, 14, 15, 24, 16, 17, 18, 19, 20, 21, 22] rfl
    have hKc := hK.sub (tys' := [(k0, .int), (k1, .int), (k2, .int), (k3, .int), (k4, .int), (k5, .int), (k6, .int), (l_0, .int), (l_1, .int), (l_2, .int), (l_3, .int), (l_4, .int), (l_5, .int), (l_6, .int)]) [2, 3, 4, 5, 6, 7, 8, 9, 10, 11, 12, 13, 14, 15] rfl
    have hDc := hD.sub (ws' := [(a1, .inr (10, [.ref v0, .ref v1, .ref v2, .ref v3, .ref v4, .ref v5, .ref v6, .int 0, .int 0, .int 0, .int 0, .int 0, .int 0, .int 0, .int 0, .int 0])), (v0, .inl (k0, 3, .inl f0)), (v1, .inl (k1, 3, .inl f1)), (v2, .inl (k2, 7, .inl f2)), (v3, .inl (k3, 7, .inl f3)), (v4, .inl (k4, 5, .inl f4)), (v5, .inl (k5, 5, .inl f5)), (v6, .inl (k6, 5, .inl f6)), (rd, .inr (10, [.ref w0, .ref w1, .ref w2, .ref w3, .ref w4, .ref w5, .ref w6, .int 0, .int 0, .int 0, .int 0, .int 0, .int 0, .int 0, .int 0, .int 0])), (w0, .inl (l_0, 3, .inl g0)), (w1, .inl (l_1, 3, .inl g1)), (w2, .inl (l_2, 7, .inl g2)), (w3, .inl (l_3, 7, .inl g3)), (w4, .inl (l_4, 5, .inl g4)), (w5, .inl (l_5, 5, .inl g5)), (w6, .inl (l_6, 5, .inl g6))]) [8, 9, 10, 11, 12, 13, 14, 15, 24, 16, 17, 18, 19, 20, 21, 22] (by decide) rfl
    have hFc := va_free (wc := [(a1, .inr (10, [.ref v0, .ref v1, .ref v2, .ref v3, .ref v4, .ref v5, .ref v6, .int 0, .int 0, .int 0, .int 0, .int 0, .int 0, .int 0, .int 0, .int 0])), (v0, .inl (k0, 3, .inl f0)), (v1, .inl (k1, 3, .inl f1)), (v2, .inl (k2, 7, .inl f2)), (v3, .inl (k3, 7, .inl f3)), (v4, .inl (k4, 5, .inl f4)), (v5, .inl (k5, 5, .inl f5)), (v6, .inl (k6, 5, .inl f6)), (rd, .inr (10, [.ref w0, .ref w1, .ref w2, .ref w3, .ref w4, .ref w5, .ref w6, .int 0, .int 0, .int 0, .int 0, .int 0, .int 0, .int 0, .int 0, .int 0])), (w0, .inl (l_0, 3, .inl g0)), (w1, .inl (l_1, 3, .inl g1)), (w2, .inl (l_2, 7, .inl g2)), (w3, .inl (l_3, 7, .inl g3)), (w4, .inl (l_4, 5, .inl g4)), (w5, .inl (l_5, 5, .inl g5)), (w6, .inl (l_6, 5, .inl g6))]) hD hS hA [8, 9, 10, 11, 12, 13, 14, 15, 24, 16, 17, 18, 19, 20, 21, 22] rfl
    refine va_callv (va_runV (As := [.ref rd]) (rest := []) ⟨hx, hb, hml, hown, hts⟩ (f_X10_take l dC dI H.size a1 rd v0 v1 v2 v3 v4 v5 v6 k0 k1 k2 k3 k4 k5 k6 f0 f1 f2 f3 f4 f5 f6 w0 w1 w2 w3 w4 w5 w6 l_0 l_1 l_2 l_3 l_4 l_5 l_6 g0 g1 g2 g3 g4 g5 g6) (cwV 1 hts (gk_V (wl_mem 7 rfl) (wl_mem 8 rfl) (wl_mem 9 rfl) (wl_mem 10 rfl) (fun w h => List.mem_cons_of_mem _ (List.mem_append_right _ (List.mem_append_right _ (List.mem_append_right _ (List.mem_append_right _ (List.mem_append_left _ h)))))) wkg_f_X10_take) rfl rfl rfl (by decide +kernel) ⟨Nat.le_of_ble_eq_true rfl, Nat.le_of_ble_eq_true rfl⟩) ⟨fun a U g mk q => by obtain ⟨q0, q1, qP, qK, qD⟩ := q; exact ⟨q0, q1, qP, va_K.moved (u := U) (U := U.calling g mk a) (Vm.Alike.refl U.vm) qK, qD⟩, va_recv hKc hPc (ci := 10) (q0 := 0) rfl rfl, fun U hU hW => ⟨rfl, by rw [hU], by rw [hU]; exact hPc, va_K.moved hW.alike hKc, hDc.weaken (fun _ _ _ _ => trivial)⟩⟩ rfl rfl hl.1 rfl (lv_room (Nat.le_of_ble_eq_true rfl)) dX11_valley_24 ⟨Nat.le_of_ble_eq_true rfl, Nat.le_of_ble_eq_true rfl⟩) hS (fun q _ h => hFc q h) hFc (fun u t H1 locs ht hvm hz4 hB hz1 hk1 hS => ?_)
    obtain ⟨fz6, fz7, fz8, fz9, fz10, fz11, fz12, hP1, hK1, hD1⟩ := hB
    rw [ht] at hP1
    have hK1 := va_K.moved hvm.symm hK1
    obtain ⟨hP, hD⟩ := va_join (wr := [(h0, .inr (11, [.ref a0, .ref a1, .ref a2, .ref a3, .ref a4, .ref a5, .ref a6, .ref a7, .ref a8, .ref a9, .ref a10, .ref a11, .ref a12, .ref a13, .ref a14])), (a5, .inr (8, [.ref a1, .ref a3, .ref s2, .ref s3])), (a7, .inr (4, [.ref o0, .ref o1, .int 0, .int 0, .int 0, .int 0])), (a8, .inr (4, [.ref u0, .ref u1, .int 0, .int 0, .int 0, .int 0])), (a3, .inr (3, [.ref r0, .ref r1, .int 0, .int 0])), (r0, .inl (j0, 7, .inl i0)), (r1, .inl (j1, 7, .inl i1)), (a2, .inr (0, [.ref b0, .ref b1, .ref b2, .int 0])), (a0, .inr (9, [.ref yb, .ref rd, .int 0, .int 0, .int (-1), .int 0, .int 0, .int 0, .int 0, .int 0]))]) (w1 := [(a1, .inr (10, [.ref v0, .ref v1, .ref v2, .ref v3, .ref v4, .ref v5, .ref v6, .int 0, .int 0, .int 0, .int 0, .int 0, .int 0, .int 0, .int 0, .int 0])), (v0, .inl (k0, 3, .inl fz6)), (v1, .inl (k1, 3, .inl fz7)), (v2, .inl (k2, 7, .inl fz8)), (v3, .inl (k3, 7, .inl fz9)), (v4, .inl (k4, 5, .inl fz10)), (v5, .inl (k5, 5, .inl fz11)), (v6, .inl (k6, 5, .inl fz12)), (rd, .inr (10, [.ref w0, .ref w1, .ref w2, .ref w3, .ref w4, .ref w5, .ref w6, .int 0, .int 0, .int 0, .int 0, .int 0, .int 0, .int 0, .int 0, .int 0])), (w0, .inl (l_0, 3, .inl g0)), (w1, .inl (l_1, 3, .inl g1)), (w2, .inl (l_2, 7, .inl g2)), (w3, .inl (l_3, 7, .inl g3)), (w4, .inl (l_4, 5, .inl g4)), (w5, .inl (l_5, 5, .inl g5)), (w6, .inl (l_6, 5, .inl g6))]) hP hD [8, 9, 10, 11, 12, 13, 14, 15, 24, 16, 17, 18, 19, 20, 21, 22] [0, 1, 2, 3, 4, 5, 6, 7, 23] rfl rfl (by decide) (by decide) hk1 hFc hP1 hD1
    have hK := (hK.sub (tys' := [(j0, .int), (j1, .int)]) [0, 1] rfl).app hK1
    generalize H1 = H at hP hS ⊢
    have hK : va_K (dC, dI) vwCl [(j0, .int), (j1, .int), (k0, .int), (k1, .int), (k2, .int), (k3, .int), (k4, .int), (k5, .int), (k6, .int), (l_0, .int), (l_1, .int), (l_2, .int), (l_3, .int), (l_4, .int), (l_5, .int), (l_6, .int)] s := hK
    have hP : va_P (dC, dI) vwCl [(h0, .inr (11, [.ref a0, .ref a1, .ref a2, .ref a3, .ref a4, .ref a5, .ref a6, .ref a7, .ref a8, .ref a9, .ref a10, .ref a11, .ref a12, .ref a13, .ref a14])), (a5, .inr (8, [.ref a1, .ref a3, .ref s2, .ref s3])), (a7, .inr (4, [.ref o0, .ref o1, .int 0, .int 0, .int 0, .int 0])), (a8, .inr (4, [.ref u0, .ref u1, .int 0, .int 0, .int 0, .int 0])), (a3, .inr (3, [.ref r0, .ref r1, .int 0, .int 0])), (r0, .inl (j0, 7, .inl i0)), (r1, .inl (j1, 7, .inl i1)), (a2, .inr (0, [.ref b0, .ref b1, .ref b2, .int 0])), (a0, .inr (9, [.ref yb, .ref rd, .int 0, .int 0, .int (-1), .int 0, .int 0, .int 0, .int 0, .int 0])), (a1, .inr (10, [.ref v0, .ref v1, .ref v2, .ref v3, .ref v4, .ref v5, .ref v6, .int 0, .int 0, .int 0, .int 0, .int 0, .int 0, .int 0, .int 0, .int 0])), (v0, .inl (k0, 3, .inl fz6)), (v1, .inl (k1, 3, .inl fz7)), (v2, .inl (k2, 7, .inl fz8)), (v3, .inl (k3, 7, .inl fz9)), (v4, .inl (k4, 5, .inl fz10)), (v5, .inl (k5, 5, .inl fz11)), (v6, .inl (k6, 5, .inl fz12)), (rd, .inr (10, [.ref w0, .ref w1, .ref w2, .ref w3, .ref w4, .ref w5, .ref w6, .int 0, .int 0, .int 0, .int 0, .int 0, .int 0, .int 0, .int 0, .int 0])), (w0, .inl (l_0, 3, .inl g0)), (w1, .inl (l_1, 3, .inl g1)), (w2, .inl (l_2, 7, .inl g2)), (w3, .inl (l_3, 7, .inl g3)), (w4, .inl (l_4, 5, .inl g4)), (w5, .inl (l_5, 5, .inl g5)), (w6, .inl (l_6, 5, .inl g6))] H := hP
    have hD : va_D A [(h0, .inr (11, [.ref a0, .ref a1, .ref a2, .ref a3, .ref a4, .ref a5, .ref a6, .ref a7, .ref a8, .ref a9, .ref a10, .ref a11, .ref a12, .ref a13, .ref a14])), (a5, .inr (8, [.ref a1, .ref a3, .ref s2, .ref s3])), (a7, .inr (4, [.ref o0, .ref o1, .int 0, .int 0, .int 0, .int 0])), (a8, .inr (4, [.ref u0, .ref u1, .int 0, .int 0, .int 0, .int 0])), (a3, .inr (3, [.ref r0, .ref r1, .int 0, .int 0])), (r0, .inl (j0, 7, .inl i0)), (r1, .inl (j1, 7, .inl i1)), (a2, .inr (0, [.ref b0, .ref b1, .ref b2, .int 0])), (a0, .inr (9, [.ref yb, .ref rd, .int 0, .int 0, .int (-1), .int 0, .int 0, .int 0, .int 0, .int 0])), (a1, .inr (10, [.ref v0, .ref v1, .ref v2, .ref v3, .ref v4, .ref v5, .ref v6, .int 0, .int 0, .int 0, .int 0, .int 0, .int 0, .int 0, .int 0, .int 0])), (v0, .inl (k0, 3, .inl fz6)), (v1, .inl (k1, 3, .inl fz7)), (v2, .inl (k2, 7, .inl fz8)), (v3, .inl (k3, 7, .inl fz9)), (v4, .inl (k4, 5, .inl fz10)), (v5, .inl (k5, 5, .inl fz11)), (v6, .inl (k6, 5, .inl fz12)), (rd, .inr (10, [.ref w0, .ref w1, .ref w2, .ref w3, .ref w4, .ref w5, .ref w6, .int 0, .int 0, .int 0, .int 0, .int 0, .int 0, .int 0, .int 0, .int 0])), (w0, .inl (l_0, 3, .inl g0)), (w1, .inl (l_1, 3, .inl g1)), (w2, .inl (l_2, 7, .inl g2)), (w3, .inl (l_3, 7, .inl g3)), (w4, .inl (l_4, 5, .inl g4)), (w5, .inl (l_5, 5, .inl g5)), (w6, .inl (l_6, 5, .inl g6))] := hD
    refine W.widen (k := 0) (n := 0) (Nat.le_of_ble_eq_true rfl) (Nat.le_of_ble_eq_true rfl) ?_
    refine lv_aload_n hx hb dX11_valley_27 rfl (lv_at hl 0 rfl) ?_
    refine va_get (D := (dC, dI)) (ci := 11) (v := .ref a2) (C := RX11) (T := TX11) (N := 15) hx hb hts (fun w h => List.mem_cons_of_mem _ (List.mem_append_right _ (List.mem_append_left _ h))) hown hK hP 0 rfl rfl 2 (by decide) (hts (.fieldLink RX11 26 "SagMemory" "acts" "LSagMemory$Acts;") (wl_mem 11 rfl)) (fun _ h9 => h9) rfl dX11_valley_28 ?_
    refine lv_iconst (v := 0) hx hb dX11_valley_31 (by decide) ?_
    refine va_put (D := (dC, dI)) (ci := 0) (v := .int 0) (ty := .int) (C := RX0) (T := TX0) (N := 4) hx hb hts (fun w h => List.mem_cons_of_mem _ (List.mem_append_right _ (List.mem_append_right _ (List.mem_append_right _ (List.mem_append_right _ (List.mem_append_right _ (List.mem_append_left _ h))))))) tyX0 tyX0_ok nmX0 hown hK hP hD hS 7 rfl rfl 3 (by decide) (hts (.fieldLink RX11 116 "SagMemory$Acts" "done" "I") (wl_mem 12 rfl)) (fun _ h9 => h9) rfl (by decide +kernel) rfl rfl (Nat.le_of_ble_eq_true rfl) dX11_valley_32 (fun H locs hP hD hS => ?_)
    have hP : va_P (dC, dI) vwCl [(h0, .inr (11, [.ref a0, .ref a1, .ref a2, .ref a3, .ref a4, .ref a5, .ref a6, .ref a7, .ref a8, .ref a9, .ref a10, .ref a11, .ref a12, .ref a13, .ref a14])), (a5, .inr (8, [.ref a1, .ref a3, .ref s2, .ref s3])), (a7, .inr (4, [.ref o0, .ref o1, .int 0, .int 0, .int 0, .int 0])), (a8, .inr (4, [.ref u0, .ref u1, .int 0, .int 0, .int 0, .int 0])), (a3, .inr (3, [.ref r0, .ref r1, .int 0, .int 0])), (r0, .inl (j0, 7, .inl i0)), (r1, .inl (j1, 7, .inl i1)), (a2, .inr (0, [.ref b0, .ref b1, .ref b2, .int 0])), (a0, .inr (9, [.ref yb, .ref rd, .int 0, .int 0, .int (-1), .int 0, .int 0, .int 0, .int 0, .int 0])), (a1, .inr (10, [.ref v0, .ref v1, .ref v2, .ref v3, .ref v4, .ref v5, .ref v6, .int 0, .int 0, .int 0, .int 0, .int 0, .int 0, .int 0, .int 0, .int 0])), (v0, .inl (k0, 3, .inl fz6)), (v1, .inl (k1, 3, .inl fz7)), (v2, .inl (k2, 7, .inl fz8)), (v3, .inl (k3, 7, .inl fz9)), (v4, .inl (k4, 5, .inl fz10)), (v5, .inl (k5, 5, .inl fz11)), (v6, .inl (k6, 5, .inl fz12)), (rd, .inr (10, [.ref w0, .ref w1, .ref w2, .ref w3, .ref w4, .ref w5, .ref w6, .int 0, .int 0, .int 0, .int 0, .int 0, .int 0, .int 0, .int 0, .int 0])), (w0, .inl (l_0, 3, .inl g0)), (w1, .inl (l_1, 3, .inl g1)), (w2, .inl (l_2, 7, .inl g2)), (w3, .inl (l_3, 7, .inl g3)), (w4, .inl (l_4, 5, .inl g4)), (w5, .inl (l_5, 5, .inl g5)), (w6, .inl (l_6, 5, .inl g6))] H := hP
    have hD : va_D A [(h0, .inr (11, [.ref a0, .ref a1, .ref a2, .ref a3, .ref a4, .ref a5, .ref a6, .ref a7, .ref a8, .ref a9, .ref a10, .ref a11, .ref a12, .ref a13, .ref a14])), (a5, .inr (8, [.ref a1, .ref a3, .ref s2, .ref s3])), (a7, .inr (4, [.ref o0, .ref o1, .int 0, .int 0, .int 0, .int 0])), (a8, .inr (4, [.ref u0, .ref u1, .int 0, .int 0, .int 0, .int 0])), (a3, .inr (3, [.ref r0, .ref r1, .int 0, .int 0])), (r0, .inl (j0, 7, .inl i0)), (r1, .inl (j1, 7, .inl i1)), (a2, .inr (0, [.ref b0, .ref b1, .ref b2, .int 0])), (a0, .inr (9, [.ref yb, .ref rd, .int 0, .int 0, .int (-1), .int 0, .int 0, .int 0, .int 0, .int 0])), (a1, .inr (10, [.ref v0, .ref v1, .ref v2, .ref v3, .ref v4, .ref v5, .ref v6, .int 0, .int 0, .int 0, .int 0, .int 0, .int 0, .int 0, .int 0, .int 0])), (v0, .inl (k0, 3, .inl fz6)), (v1, .inl (k1, 3, .inl fz7)), (v2, .inl (k2, 7, .inl fz8)), (v3, .inl (k3, 7, .inl fz9)), (v4, .inl (k4, 5, .inl fz10)), (v5, .inl (k5, 5, .inl fz11)), (v6, .inl (k6, 5, .inl fz12)), (rd, .inr (10, [.ref w0, .ref w1, .ref w2, .ref w3, .ref w4, .ref w5, .ref w6, .int 0, .int 0, .int 0, .int 0, .int 0, .int 0, .int 0, .int 0, .int 0])), (w0, .inl (l_0, 3, .inl g0)), (w1, .inl (l_1, 3, .inl g1)), (w2, .inl (l_2, 7, .inl g2)), (w3, .inl (l_3, 7, .inl g3)), (w4, .inl (l_4, 5, .inl g4)), (w5, .inl (l_5, 5, .inl g5)), (w6, .inl (l_6, 5, .inl g6))] := hD
    refine lv_aload_n hx hb dX11_valley_35 rfl (lv_at hl 0 rfl) ?_
    refine va_get (D := (dC, dI)) (ci := 11) (v := .ref a0) (C := RX11) (T := TX11) (N := 15) hx hb hts (fun w h => List.mem_cons_of_mem _ (List.mem_append_right _ (List.mem_append_left _ h))) hown hK hP 0 rfl rfl 0 (by decide) (hts (.fieldLink RX11 10 "SagMemory" "tape" "LSagMemory$Tape;") (wl_mem 0 rfl)) (fun _ h9 => h9) rfl dX11_valley_36 ?_
    refine lv_iconst (v := 0) hx hb dX11_valley_39 (by decide) ?_
    refine va_put (D := (dC, dI)) (ci := 9) (v := .int 0) (ty := .int) (C := RX9) (T := TX9) (N := 10) hx hb hts (fun w h => List.mem_cons_of_mem _ (List.mem_append_right _ (List.mem_append_right _ (List.mem_append_right _ (List.mem_append_left _ h))))) tyX9 tyX9_ok nmX9 hown hK hP hD hS 8 rfl rfl 2 (by decide) (hts (.fieldLink RX11 97 "SagMemory$Tape" "length" "I") (wl_mem 13 rfl)) (fun _ h9 => h9) rfl (by decide +kernel) rfl rfl (Nat.le_of_ble_eq_true rfl) dX11_valley_40 (fun H locs hP hD hS => ?_)
    have hP : va_P (dC, dI) vwCl [(h0, .inr (11, [.ref a0, .ref a1, .ref a2, .ref a3, .ref a4, .ref a5, .ref a6, .ref a7, .ref a8, .ref a9, .ref a10, .ref a11, .ref a12, .ref a13, .ref a14])), (a5, .inr (8, [.ref a1, .ref a3, .ref s2, .ref s3])), (a7, .inr (4, [.ref o0, .ref o1, .int 0, .int 0, .int 0, .int 0])), (a8, .inr (4, [.ref u0, .ref u1, .int 0, .int 0, .int 0, .int 0])), (a3, .inr (3, [.ref r0, .ref r1, .int 0, .int 0])), (r0, .inl (j0, 7, .inl i0)), (r1, .inl (j1, 7, .inl i1)), (a2, .inr (0, [.ref b0, .ref b1, .ref b2, .int 0])), (a0, .inr (9, [.ref yb, .ref rd, .int 0, .int 0, .int (-1), .int 0, .int 0, .int 0, .int 0, .int 0])), (a1, .inr (10, [.ref v0, .ref v1, .ref v2, .ref v3, .ref v4, .ref v5, .ref v6, .int 0, .int 0, .int 0, .int 0, .int 0, .int 0, .int 0, .int 0, .int 0])), (v0, .inl (k0, 3, .inl fz6)), (v1, .inl (k1, 3, .inl fz7)), (v2, .inl (k2, 7, .inl fz8)), (v3, .inl (k3, 7, .inl fz9)), (v4, .inl (k4, 5, .inl fz10)), (v5, .inl (k5, 5, .inl fz11)), (v6, .inl (k6, 5, .inl fz12)), (rd, .inr (10, [.ref w0, .ref w1, .ref w2, .ref w3, .ref w4, .ref w5, .ref w6, .int 0, .int 0, .int 0, .int 0, .int 0, .int 0, .int 0, .int 0, .int 0])), (w0, .inl (l_0, 3, .inl g0)), (w1, .inl (l_1, 3, .inl g1)), (w2, .inl (l_2, 7, .inl g2)), (w3, .inl (l_3, 7, .inl g3)), (w4, .inl (l_4, 5, .inl g4)), (w5, .inl (l_5, 5, .inl g5)), (w6, .inl (l_6, 5, .inl g6))] H := hP
    have hD : va_D A [(h0, .inr (11, [.ref a0, .ref a1, .ref a2, .ref a3, .ref a4, .ref a5, .ref a6, .ref a7, .ref a8, .ref a9, .ref a10, .ref a11, .ref a12, .ref a13, .ref a14])), (a5, .inr (8, [.ref a1, .ref a3, .ref s2, .ref s3])), (a7, .inr (4, [.ref o0, .ref o1, .int 0, .int 0, .int 0, .int 0])), (a8, .inr (4, [.ref u0, .ref u1, .int 0, .int 0, .int 0, .int 0])), (a3, .inr (3, [.ref r0, .ref r1, .int 0, .int 0])), (r0, .inl (j0, 7, .inl i0)), (r1, .inl (j1, 7, .inl i1)), (a2, .inr (0, [.ref b0, .ref b1, .ref b2, .int 0])), (a0, .inr (9, [.ref yb, .ref rd, .int 0, .int 0, .int (-1), .int 0, .int 0, .int 0, .int 0, .int 0])), (a1, .inr (10, [.ref v0, .ref v1, .ref v2, .ref v3, .ref v4, .ref v5, .ref v6, .int 0, .int 0, .int 0, .int 0, .int 0, .int 0, .int 0, .int 0, .int 0])), (v0, .inl (k0, 3, .inl fz6)), (v1, .inl (k1, 3, .inl fz7)), (v2, .inl (k2, 7, .inl fz8)), (v3, .inl (k3, 7, .inl fz9)), (v4, .inl (k4, 5, .inl fz10)), (v5, .inl (k5, 5, .inl fz11)), (v6, .inl (k6, 5, .inl fz12)), (rd, .inr (10, [.ref w0, .ref w1, .ref w2, .ref w3, .ref w4, .ref w5, .ref w6, .int 0, .int 0, .int 0, .int 0, .int 0, .int 0, .int 0, .int 0, .int 0])), (w0, .inl (l_0, 3, .inl g0)), (w1, .inl (l_1, 3, .inl g1)), (w2, .inl (l_2, 7, .inl g2)), (w3, .inl (l_3, 7, .inl g3)), (w4, .inl (l_4, 5, .inl g4)), (w5, .inl (l_5, 5, .inl g5)), (w6, .inl (l_6, 5, .inl g6))] := hD
    refine lv_aload_n hx hb dX11_valley_43 rfl (lv_at hl 0 rfl) ?_
    have hPc := hP.sub (ws' := [(h0, .inr (11, [.ref a0, .ref a1, .ref a2, .ref a3, .ref a4, .ref a5, .ref a6, .ref a7, .ref a8, .ref a9, .ref a10, .ref a11, .ref a12, .ref a13, .ref a14])), (a5, .inr (8, [.ref a1, .ref a3, .ref s2, .ref s3])), (a7, .inr (4, [.ref o0, .ref o1, .int 0, .int 0, .int 0, .int 0])), (a8, .inr (4, [.ref u0, .ref u1, .int 0, .int 0, .int 0, .int 0])), (a3, .inr (3, [.ref r0, .ref r1, .int 0, .int 0])), (r0, .inl (j0, 7, .inl i0)), (r1, .inl (j1, 7, .inl i1)), (a1, .inr (10, [.ref v0, .ref v1, .ref v2, .ref v3, .ref v4, .ref v5, .ref v6, .int 0, .int 0, .int 0, .int 0, .int 0, .int 0, .int 0, .int 0, .int 0])), (v2, .inl (k2, 7, .inl fz8)), (v3, .inl (k3, 7, .inl fz9)), (a2, .inr (0, [.ref b0, .ref b1, .ref b2, .int 0]))]) [0, 1, 2, 3, 4, 5, 6, 9, 12, 13, 7] rfl
    have hKc := hK.sub (tys' := [(j0, .int), (j1, .int), (k2, .int), (k3, .int)]) [0, 1, 4, 5] rfl
    have hDc := hD.sub (ws' := [(h0, .inr (11, [.ref a0, .ref a1, .ref a2, .ref a3, .ref a4, .ref a5, .ref a6, .ref a7, .ref a8, .ref a9, .ref a10, .ref a11, .ref a12, .ref a13, .ref a14])), (a5, .inr (8, [.ref a1, .ref a3, .ref s2, .ref s3])), (a7, .inr (4, [.ref o0, .ref o1, .int 0, .int 0, .int 0, .int 0])), (a8, .inr (4, [.ref u0, .ref u1, .int 0, .int 0, .int 0, .int 0])), (a3, .inr (3, [.ref r0, .ref r1, .int 0, .int 0])), (r0, .inl (j0, 7, .inl i0)), (r1, .inl (j1, 7, .inl i1)), (a1, .inr (10, [.ref v0, .ref v1, .ref v2, .ref v3, .ref v4, .ref v5, .ref v6, .int 0, .int 0, .int 0, .int 0, .int 0, .int 0, .int 0, .int 0, .int 0])), (v2, .inl (k2, 7, .inl fz8)), (v3, .inl (k3, 7, .inl fz9)), (a2, .inr (0, [.ref b0, .ref b1, .ref b2, .int 0]))]) [0, 1, 2, 3, 4, 5, 6, 9, 12, 13, 7] (by decide) rfl
    have hFc := va_free (wc := [(h0, .inr (11, [.ref a0, .ref a1, .ref a2, .ref a3, .ref a4, .ref a5, .ref a6, .ref a7, .ref a8, .ref a9, .ref a10, .ref a11, .ref a12, .ref a13, .ref a14])), (a5, .inr (8, [.ref a1, .ref a3, .ref s2, .ref s3])), (a7, .inr (4, [.ref o0, .ref o1, .int 0, .int 0, .int 0, .int 0])), (a8, .inr (4, [.ref u0, .ref u1, .int 0, .int 0, .int 0, .int 0])), (a3, .inr (3, [.ref r0, .ref r1, .int 0, .int 0])), (r0, .inl (j0, 7, .inl i0)), (r1, .inl (j1, 7, .inl i1)), (a1, .inr (10, [.ref v0, .ref v1, .ref v2, .ref v3, .ref v4, .ref v5, .ref v6, .int 0, .int 0, .int 0, .int 0, .int 0, .int 0, .int 0, .int 0, .int 0])), (v2, .inl (k2, 7, .inl fz8)), (v3, .inl (k3, 7, .inl fz9)), (a2, .inr (0, [.ref b0, .ref b1, .ref b2, .int 0]))]) hD hS hA [0, 1, 2, 3, 4, 5, 6, 9, 12, 13, 7] rfl
    refine va_callv (va_runV (As := []) (rest := []) ⟨hx, hb, hml, hown, hts⟩ (f_X11_renew l dC dI H.size h0 a0 a1 a2 a3 a4 a5 a6 a7 a8 a9 a10 a11 a12 a13 a14 s2 s3 o0 o1 u0 u1 r0 r1 v0 v1 v2 v3 v4 v5 v6 b0 b1 b2 j0 j1 k2 k3 i0 i1 fz8 fz9) (cwV 0 hts (gk_V (wl_mem 14 rfl) (wl_mem 15 rfl) (wl_mem 16 rfl) (wl_mem 17 rfl) (fun w h => List.mem_cons_of_mem _ (List.mem_append_right _ (List.mem_append_right _ (List.mem_append_right _ (List.mem_append_right _ (List.mem_append_right _ (List.mem_append_right _ (List.mem_append_left _ h)))))))) wkg_f_X11_renew) rfl rfl rfl (by decide +kernel) ⟨Nat.le_of_ble_eq_true rfl, Nat.le_of_ble_eq_true rfl⟩) ⟨fun a U g mk q => by obtain ⟨q0, q1, qP, qK, qD⟩ := q; exact ⟨q0, q1, qP, va_K.moved (u := U) (U := U.calling g mk a) (Vm.Alike.refl U.vm) qK, qD⟩, va_recv hKc hPc (ci := 11) (q0 := 0) rfl rfl, fun U hU hW => ⟨rfl, by rw [hU], by rw [hU]; exact hPc, va_K.moved hW.alike hKc, hDc.weaken (fun _ _ _ _ => trivial)⟩⟩ rfl rfl hl.1 rfl (lv_room (Nat.le_of_ble_eq_true rfl)) dX11_valley_44 ⟨Nat.le_of_ble_eq_true rfl, Nat.le_of_ble_eq_true rfl⟩) hS (fun q _ h => hFc q h) hFc (fun u t H1 locs ht hvm hz13 hB hz1 hk1 hS => ?_)
    obtain ⟨fz15, fz16, hP1, hK1, hD1⟩ := hB
    rw [ht] at hP1
    have hK1 := va_K.moved hvm.symm hK1
    obtain ⟨hP, hD⟩ := va_join (wr := [(a0, .inr (9, [.ref yb, .ref rd, .int 0, .int 0, .int (-1), .int 0, .int 0, .int 0, .int 0, .int 0])), (v0, .inl (k0, 3, .inl fz6)), (v1, .inl (k1, 3, .inl fz7)), (v4, .inl (k4, 5, .inl fz10)), (v5, .inl (k5, 5, .inl fz11)), (v6, .inl (k6, 5, .inl fz12)), (rd, .inr (10, [.ref w0, .ref w1, .ref w2, .ref w3, .ref w4, .ref w5, .ref w6, .int 0, .int 0, .int 0, .int 0, .int 0, .int 0, .int 0, .int 0, .int 0])), (w0, .inl (l_0, 3, .inl g0)), (w1, .inl (l_1, 3, .inl g1)), (w2, .inl (l_2, 7, .inl g2)), (w3, .inl (l_3, 7, .inl g3)), (w4, .inl (l_4, 5, .inl g4)), (w5, .inl (l_5, 5, .inl g5)), (w6, .inl (l_6, 5, .inl g6))]) (w1 := [(h0, .inr (11, [.ref a0, .ref a1, .ref a2, .ref a3, .ref a4, .ref a5, .ref a6, .ref a7, .ref a8, .ref a9, .ref a10, .ref a11, .ref a12, .ref a13, .ref a14])), (a5, .inr (8, [.ref a1, .ref a3, .ref s2, .ref s3])), (a7, .inr (4, [.ref o0, .ref o1, .int 0, .int 0, .int 0, .int 0])), (a8, .inr (4, [.ref u0, .ref u1, .int 0, .int 0, .int 0, .int 0])), (a3, .inr (3, [.ref r0, .ref r1, .int 0, .int 0])), (r0, .inl (j0, 7, .inl fz15)), (r1, .inl (j1, 7, .inl fz16)), (a1, .inr (10, [.ref v0, .ref v1, .ref v2, .ref v3, .ref v4, .ref v5, .ref v6, .int 0, .int 0, .int 0, .int 0, .int 0, .int 0, .int 0, .int 0, .int 0])), (v2, .inl (k2, 7, .inl fz8)), (v3, .inl (k3, 7, .inl fz9)), (a2, .inr (0, [.ref b0, .ref b1, .ref b2, .int 0]))]) hP hD [0, 1, 2, 3, 4, 5, 6, 9, 12, 13, 7] [8, 10, 11, 14, 15, 16, 17, 18, 19, 20, 21, 22, 23, 24] rfl rfl (by decide) (by decide) hk1 hFc hP1 hD1
    have hK := (hK.sub (tys' := [(k0, .int), (k1, .int), (k4, .int), (k5, .int), (k6, .int), (l_0, .int), (l_1, .int), (l_2, .int), (l_3, .int), (l_4, .int), (l_5, .int), (l_6, .int)]) [2, 3, 6, 7, 8, 9, 10, 11, 12, 13, 14, 15] rfl).app hK1
    generalize H1 = H at hP hS ⊢
    have hK : va_K (dC, dI) vwCl [(k0, .int), (k1, .int), (k4, .int), (k5, .int), (k6, .int), (l_0, .int), (l_1, .int), (l_2, .int), (l_3, .int), (l_4, .int), (l_5, .int), (l_6, .int), (j0, .int), (j1, .int), (k2, .int), (k3, .int)] s := hK
    have hP : va_P (dC, dI) vwCl [(a0, .inr (9, [.ref yb, .ref rd, .int 0, .int 0, .int (-1), .int 0, .int 0, .int 0, .int 0, .int 0])), (v0, .inl (k0, 3, .inl fz6)), (v1, .inl (k1, 3, .inl fz7)), (v4, .inl (k4, 5, .inl fz10)), (v5, .inl (k5, 5, .inl fz11)), (v6, .inl (k6, 5, .inl fz12)), (rd, .inr (10, [.ref w0, .ref w1, .ref w2, .ref w3, .ref w4, .ref w5, .ref w6, .int 0, .int 0, .int 0, .int 0, .int 0, .int 0, .int 0, .int 0, .int 0])), (w0, .inl (l_0, 3, .inl g0)), (w1, .inl (l_1, 3, .inl g1)), (w2, .inl (l_2, 7, .inl g2)), (w3, .inl (l_3, 7, .inl g3)), (w4, .inl (l_4, 5, .inl g4)), (w5, .inl (l_5, 5, .inl g5)), (w6, .inl (l_6, 5, .inl g6)), (h0, .inr (11, [.ref a0, .ref a1, .ref a2, .ref a3, .ref a4, .ref a5, .ref a6, .ref a7, .ref a8, .ref a9, .ref a10, .ref a11, .ref a12, .ref a13, .ref a14])), (a5, .inr (8, [.ref a1, .ref a3, .ref s2, .ref s3])), (a7, .inr (4, [.ref o0, .ref o1, .int 0, .int 0, .int 0, .int 0])), (a8, .inr (4, [.ref u0, .ref u1, .int 0, .int 0, .int 0, .int 0])), (a3, .inr (3, [.ref r0, .ref r1, .int 0, .int 0])), (r0, .inl (j0, 7, .inl fz15)), (r1, .inl (j1, 7, .inl fz16)), (a1, .inr (10, [.ref v0, .ref v1, .ref v2, .ref v3, .ref v4, .ref v5, .ref v6, .int 0, .int 0, .int 0, .int 0, .int 0, .int 0, .int 0, .int 0, .int 0])), (v2, .inl (k2, 7, .inl fz8)), (v3, .inl (k3, 7, .inl fz9)), (a2, .inr (0, [.ref b0, .ref b1, .ref b2, .int 0]))] H := hP
    have hD : va_D A [(a0, .inr (9, [.ref yb, .ref rd, .int 0, .int 0, .int (-1), .int 0, .int 0, .int 0, .int 0, .int 0])), (v0, .inl (k0, 3, .inl fz6)), (v1, .inl (k1, 3, .inl fz7)), (v4, .inl (k4, 5, .inl fz10)), (v5, .inl (k5, 5, .inl fz11)), (v6, .inl (k6, 5, .inl fz12)), (rd, .inr (10, [.ref w0, .ref w1, .ref w2, .ref w3, .ref w4, .ref w5, .ref w6, .int 0, .int 0, .int 0, .int 0, .int 0, .int 0, .int 0, .int 0, .int 0])), (w0, .inl (l_0, 3, .inl g0)), (w1, .inl (l_1, 3, .inl g1)), (w2, .inl (l_2, 7, .inl g2)), (w3, .inl (l_3, 7, .inl g3)), (w4, .inl (l_4, 5, .inl g4)), (w5, .inl (l_5, 5, .inl g5)), (w6, .inl (l_6, 5, .inl g6)), (h0, .inr (11, [.ref a0, .ref a1, .ref a2, .ref a3, .ref a4, .ref a5, .ref a6, .ref a7, .ref a8, .ref a9, .ref a10, .ref a11, .ref a12, .ref a13, .ref a14])), (a5, .inr (8, [.ref a1, .ref a3, .ref s2, .ref s3])), (a7, .inr (4, [.ref o0, .ref o1, .int 0, .int 0, .int 0, .int 0])), (a8, .inr (4, [.ref u0, .ref u1, .int 0, .int 0, .int 0, .int 0])), (a3, .inr (3, [.ref r0, .ref r1, .int 0, .int 0])), (r0, .inl (j0, 7, .inl fz15)), (r1, .inl (j1, 7, .inl fz16)), (a1, .inr (10, [.ref v0, .ref v1, .ref v2, .ref v3, .ref v4, .ref v5, .ref v6, .int 0, .int 0, .int 0, .int 0, .int 0, .int 0, .int 0, .int 0, .int 0])), (v2, .inl (k2, 7, .inl fz8)), (v3, .inl (k3, 7, .inl fz9)), (a2, .inr (0, [.ref b0, .ref b1, .ref b2, .int 0]))] := hD
    refine W.widen (k := 0) (n := 0) (Nat.le_of_ble_eq_true rfl) (Nat.le_of_ble_eq_true rfl) ?_
    refine lv_aload_n hx hb dX11_valley_47 rfl (lv_at hl 0 rfl) ?_
    refine va_get (D := (dC, dI)) (ci := 11) (v := .ref a1) (C := RX11) (T := TX11) (N := 15) hx hb hts (fun w h => List.mem_cons_of_mem _ (List.mem_append_right _ (List.mem_append_left _ h))) hown hK hP 14 rfl rfl 1 (by decide) (hts (.fieldLink RX11 19 "SagMemory" "told" "LSagMemory$Valley;") (wl_mem 5 rfl)) (fun _ h9 => h9) rfl dX11_valley_48 ?_
    refine va_get (D := (dC, dI)) (ci := 10) (v := .int 0) (C := RX10) (T := TX10) (N := 16) hx hb hts (fun w h => List.mem_cons_of_mem _ (List.mem_append_right _ (List.mem_append_right _ (List.mem_append_right _ (List.mem_append_right _ (List.mem_append_right _ (List.mem_append_right _ (List.mem_append_right _ (List.mem_append_left _ h))))))))) hown hK hP 21 rfl rfl 7 (by decide) (hts (.fieldLink RX11 122 "SagMemory$Valley" "lines" "I") (wl_mem 18 rfl)) (fun _ h9 => h9) rfl dX11_valley_51 ?_
    exact W.iret (v := 0) hx hb hr (fun t ht hW => ⟨⟨0, (), rfl, rfl, trivial⟩, hS.F ht⟩) hS.2.2 dX11_valley_54
  · skip
    exact absurd cz3 (by decide)
def wk_f_X11_rowsHad : List Cond := .code yX11_rowsHad cX11_rowsHad 3 (some .int) :: ([.fieldLink RX11 85 "SagMemory" "slots" "[LSagMemory$Slot;", .fieldLink RX11 386 "SagMemory$Slot" "has" "Z"] ++ (wsX110 ++ (wsX60 ++ [])))
theorem wkg_f_X11_rowsHad : wk_f_X11_rowsHad.all goodWord = true := by decide +kernel
set_option maxHeartbeats 4000000 in
set_option maxRecDepth 100000 in
theorem f_X11_rowsHad (l : Launch) (dC : Nat → ClassId) (dI : Nat → Nat → Nat) (h0 : Nat) (a0 : Nat) (a1 : Nat) (a2 : Nat) (a3 : Nat) (a4 : Nat) (a5 : Nat) (a6 : Nat) (a7 : Nat) (a8 : Nat) (a9 : Nat) (a10 : Nat) (a11 : Nat) (a12 : Nat) (a13 : Nat) (a14 : Nat) (s0 : Nat) (s1 : Nat) (s2 : Nat) (s3 : Nat) (n0 : Nat) (n1 : Nat) (n2 : Nat) (n3 : Nat) (kq : ClassId) : Met l yX11_rowsHad wk_f_X11_rowsHad ({ frames := 0, cells := 0, slots := 0, locals := 0 }) (va_Pc [.ref h0] (fun U => va_P (dC, dI) vwCl [(h0, .inr (11, [.ref a0, .ref a1, .ref a2, .ref a3, .ref a4, .ref a5, .ref a6, .ref a7, .ref a8, .ref a9, .ref a10, .ref a11, .ref a12, .ref a13, .ref a14])), (a13, .inl (kq, 4, .inr (.inr (.inr (.inr (va_up (va_up (va_up (va_up (fun _ => none) 0 (some s0)) 1 (some s1)) 2 (some s2)) 3 (some s3))))))), (s0, .inr (6, [.ref n0, .int 0, .int 0, .int 0])), (s1, .inr (6, [.ref n1, .int 0, .int 0, .int 0])), (s2, .inr (6, [.ref n2, .int 0, .int 0, .int 0])), (s3, .inr (6, [.ref n3, .int 0, .int 0, .int 0]))] U.heap ∧ va_K (dC, dI) vwCl [(kq, .object RX6)] U)) (vp_Si (fun r : Int32 => r = 0)) 0 0 (fun _ => False) := by
  refine Met.ofW (cc := cX11_rowsHad) (maxL := 3) (ret := (some .int)) (by decide) rfl ?_
  intro p e s m args below meth c s₁ B hml hv
  obtain ⟨rfl, hP, hK⟩ := hv
  have hx := B.exec
  have hb := B.bytes
  have hr := B.returns
  have hts := atoms_spec (ws := wk_f_X11_rowsHad) B.pre
  have hown : s.vm.findClass RX11 = some m.cls := findClass_of_methodNamed B.named
  have hlocks := B.notSynchronized
  have hl := lv_entry ([.ref h0]) (n := 3) (Nat.le_of_ble_eq_true rfl)
  rw [lg_entry_eq]
  generalize (lg_sl ([.ref h0]) ++ List.replicate (3 - (lg_sl ([.ref h0])).length) Slot.unset).toArray = ls at hl ⊢
  have hl : lv_has ls 3 [(0, .ref h0)] := hl
  refine lv_iconst (v := 0) hx hb dX11_rowsHad_0 (by decide) ?_
  refine lv_istore_n (lv' := [(1, .int 0), (0, .ref h0)]) hx hb dX11_rowsHad_1 rfl hl (by decide) rfl (fun ls hl => ?_)
  refine lv_iconst (v := 0) hx hb dX11_rowsHad_2 (by decide) ?_
  refine lv_istore_n (lv' := [(2, .int 0), (1, .int 0), (0, .ref h0)]) hx hb dX11_rowsHad_3 rfl hl (by decide) rfl (fun ls hl => ?_)
  refine lv_iload_n hx hb dX11_rowsHad_4 rfl (lv_at hl 0 rfl) ?_
  refine lv_iconst (v := 4) hx hb dX11_rowsHad_5 (by decide) ?_
  refine lv_icmp_ge (tgt := 30) hx hb dX11_rowsHad_6 (by decide) (fun cz1 => ?_) (fun cz1 => ?_)
  · skip
    exact absurd cz1 (by decide)
  · skip
    refine lv_aload_n hx hb dX11_rowsHad_9 rfl (lv_at hl 2 rfl) ?_
    refine va_get (D := (dC, dI)) (ci := 11) (v := .ref a13) (C := RX11) (T := TX11) (N := 15) hx hb hts (fun w h => List.mem_cons_of_mem _ (List.mem_append_right _ (List.mem_append_left _ h))) hown hK hP 0 rfl rfl 13 (by decide) (hts (.fieldLink RX11 85 "SagMemory" "slots" "[LSagMemory$Slot;") (wl_mem 0 rfl)) (fun _ h9 => h9) rfl dX11_rowsHad_10 ?_
    refine lv_iload_n hx hb dX11_rowsHad_13 rfl (lv_at hl 0 rfl) ?_
    refine va_aldq hx hb hK hP 1 0 rfl rfl (by unfold vp_in; decide) dX11_rowsHad_14 ?_
    refine W.eq (g2 := F0 m 15 ls [.ref s0]) rfl ?_
    refine va_get (D := (dC, dI)) (ci := 6) (v := .int 0) (C := RX6) (T := TX6) (N := 4) hx hb hts (fun w h => List.mem_cons_of_mem _ (List.mem_append_right _ (List.mem_append_right _ (List.mem_append_left _ h)))) hown hK hP 2 rfl rfl 1 (by decide) (hts (.fieldLink RX11 386 "SagMemory$Slot" "has" "Z") (wl_mem 1 rfl)) (fun _ h9 => h9) rfl dX11_rowsHad_15 ?_
    refine lv_if_eq (tgt := 24) hx hb dX11_rowsHad_18 (by decide) (fun cz2 => ?_) (fun cz2 => ?_)
    · skip
      refine lv_iinc (v := 1) (lv' := [(2, .int 1), (1, .int 0), (0, .ref h0)]) hx hb dX11_rowsHad_24 hl (k := 0) rfl (by decide) (by decide) rfl (fun ls hl => ?_)
      refine lv_goto (tgt := 4) hx hb dX11_rowsHad_27 (by decide) ?_
      refine lv_iload_n hx hb dX11_rowsHad_4 rfl (lv_at hl 0 rfl) ?_
      refine lv_iconst (v := 4) hx hb dX11_rowsHad_5 (by decide) ?_
      refine lv_icmp_ge (tgt := 30) hx hb dX11_rowsHad_6 (by decide) (fun cz3 => ?_) (fun cz3 => ?_)
      · skip
        exact absurd cz3 (by decide)
      · skip
        refine lv_aload_n hx hb dX11_rowsHad_9 rfl (lv_at hl 2 rfl) ?_
        refine va_get (D := (dC, dI)) (ci := 11) (v := .ref a13) (C := RX11) (T := TX11) (N := 15) hx hb hts (fun w h => List.mem_cons_of_mem _ (List.mem_append_right _ (List.mem_append_left _ h))) hown hK hP 0 rfl rfl 13 (by decide) (hts (.fieldLink RX11 85 "SagMemory" "slots" "[LSagMemory$Slot;") (wl_mem 0 rfl)) (fun _ h9 => h9) rfl dX11_rowsHad_10 ?_
        refine lv_iload_n hx hb dX11_rowsHad_13 rfl (lv_at hl 0 rfl) ?_
        refine va_aldq hx hb hK hP 1 0 rfl rfl (by unfold vp_in; decide) dX11_rowsHad_14 ?_
        refine W.eq (g2 := F0 m 15 ls [.ref s1]) rfl ?_
        refine va_get (D := (dC, dI)) (ci := 6) (v := .int 0) (C := RX6) (T := TX6) (N := 4) hx hb hts (fun w h => List.mem_cons_of_mem _ (List.mem_append_right _ (List.mem_append_right _ (List.mem_append_left _ h)))) hown hK hP 3 rfl rfl 1 (by decide) (hts (.fieldLink RX11 386 "SagMemory$Slot" "has" "Z") (wl_mem 1 rfl)) (fun _ h9 => h9) rfl dX11_rowsHad_15 ?_
        refine lv_if_eq (tgt := 24) hx hb dX11_rowsHad_18 (by decide) (fun cz4 => ?_) (fun cz4 => ?_)
        · skip
          refine lv_iinc (v := 2) (lv' := [(2, .int 2), (1, .int 0), (0, .ref h0)]) hx hb dX11_rowsHad_24 hl (k := 0) rfl (by decide) (by decide) rfl (fun ls hl => ?_)
          refine lv_goto (tgt := 4) hx hb dX11_rowsHad_27 (by decide) ?_
          refine lv_iload_n hx hb dX11_rowsHad_4 rfl (lv_at hl 0 rfl) ?_
          refine lv_iconst (v := 4) hx hb dX11_rowsHad_5 (by decide) ?_
          refine lv_icmp_ge (tgt := 30) hx hb dX11_rowsHad_6 (by decide) (fun cz5 => ?_) (fun cz5 => ?_)
          · skip
            exact absurd cz5 (by decide)
          · skip
            refine lv_aload_n hx hb dX11_rowsHad_9 rfl (lv_at hl 2 rfl) ?_
            refine va_get (D := (dC, dI)) (ci := 11) (v := .ref a13) (C := RX11) (T := TX11) (N := 15) hx hb hts (fun w h => List.mem_cons_of_mem _ (List.mem_append_right _ (List.mem_append_left _ h))) hown hK hP 0 rfl rfl 13 (by decide) (hts (.fieldLink RX11 85 "SagMemory" "slots" "[LSagMemory$Slot;") (wl_mem 0 rfl)) (fun _ h9 => h9) rfl dX11_rowsHad_10 ?_
            refine lv_iload_n hx hb dX11_rowsHad_13 rfl (lv_at hl 0 rfl) ?_
            refine va_aldq hx hb hK hP 1 0 rfl rfl (by unfold vp_in; decide) dX11_rowsHad_14 ?_
            refine W.eq (g2 := F0 m 15 ls [.ref s2]) rfl ?_
            refine va_get (D := (dC, dI)) (ci := 6) (v := .int 0) (C := RX6) (T := TX6) (N := 4) hx hb hts (fun w h => List.mem_cons_of_mem _ (List.mem_append_right _ (List.mem_append_right _ (List.mem_append_left _ h)))) hown hK hP 4 rfl rfl 1 (by decide) (hts (.fieldLink RX11 386 "SagMemory$Slot" "has" "Z") (wl_mem 1 rfl)) (fun _ h9 => h9) rfl dX11_rowsHad_15 ?_
            refine lv_if_eq (tgt := 24) hx hb dX11_rowsHad_18 (by decide) (fun cz6 => ?_) (fun cz6 => ?_)
            · skip
              refine lv_iinc (v := 3) (lv' := [(2, .int 3), (1, .int 0), (0, .ref h0)]) hx hb dX11_rowsHad_24 hl (k := 0) rfl (by decide) (by decide) rfl (fun ls hl => ?_)
              refine lv_goto (tgt := 4) hx hb dX11_rowsHad_27 (by decide) ?_
              refine lv_iload_n hx hb dX11_rowsHad_4 rfl (lv_at hl 0 rfl) ?_
              refine lv_iconst (v := 4) hx hb dX11_rowsHad_5 (by decide) ?_
              refine lv_icmp_ge (tgt := 30) hx hb dX11_rowsHad_6 (by decide) (fun cz7 => ?_) (fun cz7 => ?_)
              · skip
                exact absurd cz7 (by decide)
              · skip
                refine lv_aload_n hx hb dX11_rowsHad_9 rfl (lv_at hl 2 rfl) ?_
                refine va_get (D := (dC, dI)) (ci := 11) (v := .ref a13) (C := RX11) (T := TX11) (N := 15) hx hb hts (fun w h => List.mem_cons_of_mem _ (List.mem_append_right _ (List.mem_append_left _ h))) hown hK hP 0 rfl rfl 13 (by decide) (hts (.fieldLink RX11 85 "SagMemory" "slots" "[LSagMemory$Slot;") (wl_mem 0 rfl)) (fun _ h9 => h9) rfl dX11_rowsHad_10 ?_
                refine lv_iload_n hx hb dX11_rowsHad_13 rfl (lv_at hl 0 rfl) ?_
                refine va_aldq hx hb hK hP 1 0 rfl rfl (by unfold vp_in; decide) dX11_rowsHad_14 ?_
                refine W.eq (g2 := F0 m 15 ls [.ref s3]) rfl ?_
                refine va_get (D := (dC, dI)) (ci := 6) (v := .int 0) (C := RX6) (T := TX6) (N := 4) hx hb hts (fun w h => List.mem_cons_of_mem _ (List.mem_append_right _ (List.mem_append_right _ (List.mem_append_left _ h)))) hown hK hP 5 rfl rfl 1 (by decide) (hts (.fieldLink RX11 386 "SagMemory$Slot" "has" "Z") (wl_mem 1 rfl)) (fun _ h9 => h9) rfl dX11_rowsHad_15 ?_
                refine lv_if_eq (tgt := 24) hx hb dX11_rowsHad_18 (by decide) (fun cz8 => ?_) (fun cz8 => ?_)
                · skip
                  refine lv_iinc (v := 4) (lv' := [(2, .int 4), (1, .int 0), (0, .ref h0)]) hx hb dX11_rowsHad_24 hl (k := 0) rfl (by decide) (by decide) rfl (fun ls hl => ?_)
                  refine lv_goto (tgt := 4) hx hb dX11_rowsHad_27 (by decide) ?_
                  refine lv_iload_n hx hb dX11_rowsHad_4 rfl (lv_at hl 0 rfl) ?_
                  refine lv_iconst (v := 4) hx hb dX11_rowsHad_5 (by decide) ?_
                  refine lv_icmp_ge (tgt := 30) hx hb dX11_rowsHad_6 (by decide) (fun cz9 => ?_) (fun cz9 => ?_)
                  · skip
                    refine lv_iload_n hx hb dX11_rowsHad_30 rfl (lv_at hl 1 rfl) ?_
                    exact W.iret (v := 0) hx hb hr (fun t ht hW => ⟨0, rfl, rfl, ht⟩) (fun _ h => absurd h List.not_mem_nil) dX11_rowsHad_31
                  · skip
                    exact absurd cz9 (by decide)
                · skip
                  exact absurd cz8 (by decide)
            · skip
              exact absurd cz6 (by decide)
        · skip
          exact absurd cz4 (by decide)
    · skip
      exact absurd cz2 (by decide)
def wk_f_X11_write : List Cond := .code yX11_write cX11_write 6 (some .int) :: ([.methodLink RX11 380 yX11_hasSlot, .static yX11_hasSlot, .initialized RX11, .fieldLink RX11 85 "SagMemory" "slots" "[LSagMemory$Slot;", .fieldLink RX11 386 "SagMemory$Slot" "has" "Z"] ++ (wk_f_X11_hasSlot ++ (wsX110 ++ (wsX60 ++ []))))
theorem wkg_f_X11_write : wk_f_X11_write.all goodWord = true := by decide +kernel
set_option maxHeartbeats 4000000 in
set_option maxRecDepth 100000 in
theorem f_X11_write (l : Launch) (dC : Nat → ClassId) (dI : Nat → Nat → Nat) (h0 : Nat) (a0 : Nat) (a1 : Nat) (a2 : Nat) (a3 : Nat) (a4 : Nat) (a5 : Nat) (a6 : Nat) (a7 : Nat) (a8 : Nat) (a9 : Nat) (a10 : Nat) (a11 : Nat) (a12 : Nat) (a13 : Nat) (a14 : Nat) (s0 : Nat) (s1 : Nat) (s2 : Nat) (s3 : Nat) (n0 : Nat) (n1 : Nat) (n2 : Nat) (n3 : Nat) (kq : ClassId) (p1 : Int32) (p2 : Int32) (p3 : Int64) : Met l yX11_write wk_f_X11_write ({ frames := 1, cells := 0, slots := 0, locals := 20 }) (va_Pc [.ref h0, .int p1, .int p2, .long p3] (fun U => va_P (dC, dI) vwCl [(h0, .inr (11, [.ref a0, .ref a1, .ref a2, .ref a3, .ref a4, .ref a5, .ref a6, .ref a7, .ref a8, .ref a9, .ref a10, .ref a11, .ref a12, .ref a13, .ref a14])), (a13, .inl (kq, 4, .inr (.inr (.inr (.inr (va_up (va_up (va_up (va_up (fun _ => none) 0 (some s0)) 1 (some s1)) 2 (some s2)) 3 (some s3))))))), (s0, .inr (6, [.ref n0, .int 0, .int 0, .int 0])), (s1, .inr (6, [.ref n1, .int 0, .int 0, .int 0])), (s2, .inr (6, [.ref n2, .int 0, .int 0, .int 0])), (s3, .inr (6, [.ref n3, .int 0, .int 0, .int 0]))] U.heap ∧ va_K (dC, dI) vwCl [(kq, .object RX6)] U)) (vp_Si (fun r : Int32 => (r = (-2) ∧ p1 < (0 : Int32)) ∨ (r = (-2) ∧ ¬ p1 < (0 : Int32) ∧ (4 : Int32) ≤ p1) ∨ (r = (-6) ∧ ¬ p1 < (0 : Int32) ∧ ¬ (4 : Int32) ≤ p1))) 0 0 (fun _ => False) := by
  refine Met.ofW (cc := cX11_write) (maxL := 6) (ret := (some .int)) (by decide) rfl ?_
  intro p e s m args below meth c s₁ B hml hv
  obtain ⟨rfl, hP, hK⟩ := hv
  have hx := B.exec
  have hb := B.bytes
  have hr := B.returns
  have hts := atoms_spec (ws := wk_f_X11_write) B.pre
  have hown : s.vm.findClass RX11 = some m.cls := findClass_of_methodNamed B.named
  have hlocks := B.notSynchronized
  have hl := lv_entry ([.ref h0, .int p1, .int p2, .long p3]) (n := 6) (Nat.le_of_ble_eq_true rfl)
  rw [lg_entry_eq]
  generalize (lg_sl ([.ref h0, .int p1, .int p2, .long p3]) ++ List.replicate (6 - (lg_sl ([.ref h0, .int p1, .int p2, .long p3])).length) Slot.unset).toArray = ls at hl ⊢
  have hl : lv_has ls 6 [(0, .ref h0), (1, .int p1), (2, .int p2), (3, .long p3)] := hl
  refine lv_iload_n hx hb dX11_write_0 rfl (lv_at hl 1 rfl) ?_
  have hPc := hP.sub (ws' := []) [] rfl
  have hKc := hK.sub (tys' := []) [] rfl
  refine vp_callSi (va_Run.run (va_runS (As := [.int p1]) (rest := []) ⟨hx, hb, hml, hown, hts⟩ (f_X11_hasSlot l dC dI p1) (va_cwS 1 hts (gk_S (wl_mem 0 rfl) (wl_mem 1 rfl) (wl_mem 2 rfl) (fun w h => List.mem_cons_of_mem _ (List.mem_append_right _ (List.mem_append_left _ h))) wkg_f_X11_hasSlot) rfl rfl rfl (by decide +kernel) ⟨Nat.le_of_ble_eq_true rfl, Nat.le_of_ble_eq_true rfl⟩) ⟨fun a U g mk q => by obtain ⟨q0, qP, qK⟩ := q; exact ⟨q0, qP, va_K.moved (u := U) (U := U.calling g mk a) (Vm.Alike.refl U.vm) qK⟩, fun U hU hW => ⟨rfl, by rw [hU]; exact hPc, va_K.moved hW.alike hKc⟩⟩ rfl rfl hl.1 rfl (lv_room (Nat.le_of_ble_eq_true rfl)) dX11_write_1 ⟨Nat.le_of_ble_eq_true rfl, Nat.le_of_ble_eq_true rfl⟩)) (fun rz2 hz1 => ?_)
  rcases hz1 with ⟨rfl, cz3⟩ | ⟨rfl, cz4, cz5⟩ | ⟨rfl, cz6, cz7⟩
  · skip
    refine lv_if_ne (tgt := 10) hx hb dX11_write_4 (by decide) (fun cz8 => ?_) (fun cz8 => ?_)
    · skip
      exact absurd cz8 (by decide)
    · skip
      refine lv_bipush (v := (-2)) hx hb dX11_write_7 (by decide) ?_
      exact W.iret (v := (-2)) hx hb hr (fun t ht hW => ⟨(-2), rfl, Or.inl ⟨rfl, cz3⟩, ht⟩) (fun _ h => absurd h List.not_mem_nil) dX11_write_9
  · skip
    refine lv_if_ne (tgt := 10) hx hb dX11_write_4 (by decide) (fun cz9 => ?_) (fun cz9 => ?_)
    · skip
      exact absurd cz9 (by decide)
    · skip
      refine lv_bipush (v := (-2)) hx hb dX11_write_7 (by decide) ?_
      exact W.iret (v := (-2)) hx hb hr (fun t ht hW => ⟨(-2), rfl, Or.inr (Or.inl ⟨rfl, cz4, cz5⟩), ht⟩) (fun _ h => absurd h List.not_mem_nil) dX11_write_9
  · skip
    refine lv_if_ne (tgt := 10) hx hb dX11_write_4 (by decide) (fun cz10 => ?_) (fun cz10 => ?_)
    · skip
      refine lv_aload_n hx hb dX11_write_10 rfl (lv_at hl 0 rfl) ?_
      refine va_get (D := (dC, dI)) (ci := 11) (v := .ref a13) (C := RX11) (T := TX11) (N := 15) hx hb hts (fun w h => List.mem_cons_of_mem _ (List.mem_append_right _ (List.mem_append_right _ (List.mem_append_left _ h)))) hown hK hP 0 rfl rfl 13 (by decide) (hts (.fieldLink RX11 85 "SagMemory" "slots" "[LSagMemory$Slot;") (wl_mem 3 rfl)) (fun _ h9 => h9) rfl dX11_write_11 ?_
      refine lv_iload_n hx hb dX11_write_14 rfl (lv_at hl 1 rfl) ?_
      have z0 : ¬ p1.toInt < (0 : Int) := fun h9 => cz6 (zi_lt.mpr h9)
      have z1 : ¬ (4 : Int) ≤ p1.toInt := fun h9 => cz7 (zi_le.mpr h9)
      rcases (show p1 = 0 ∨ p1 = 1 ∨ p1 = 2 ∨ p1 = 3 by simp only [zi_eq]; show p1.toInt = 0 ∨ p1.toInt = 1 ∨ p1.toInt = 2 ∨ p1.toInt = 3; omega) with rfl | rfl | rfl | rfl
      · skip
        refine va_aldq hx hb hK hP 1 0 rfl rfl (by unfold vp_in; decide) dX11_write_15 ?_
        refine W.eq (g2 := F0 m 16 ls [.ref s0]) rfl ?_
        refine lv_astore (lv' := [(5, .ref s0), (0, .ref h0), (1, .int 0), (2, .int p2), (3, .long p3)]) hx hb dX11_write_16 hl (by decide) rfl (fun ls hl => ?_)
        refine lv_aload hx hb dX11_write_18 (lv_at hl 0 rfl) ?_
        refine va_get (D := (dC, dI)) (ci := 6) (v := .int 0) (C := RX6) (T := TX6) (N := 4) hx hb hts (fun w h => List.mem_cons_of_mem _ (List.mem_append_right _ (List.mem_append_right _ (List.mem_append_right _ (List.mem_append_left _ h))))) hown hK hP 2 rfl rfl 1 (by decide) (hts (.fieldLink RX11 386 "SagMemory$Slot" "has" "Z") (wl_mem 4 rfl)) (fun _ h9 => h9) rfl dX11_write_20 ?_
        refine lv_if_ne (tgt := 29) hx hb dX11_write_23 (by decide) (fun cz11 => ?_) (fun cz11 => ?_)
        · skip
          exact absurd cz11 (by decide)
        · skip
          refine lv_bipush (v := (-6)) hx hb dX11_write_26 (by decide) ?_
          exact W.iret (v := (-6)) hx hb hr (fun t ht hW => ⟨(-6), rfl, Or.inr (Or.inr (⟨rfl, cz6, cz7⟩)), ht⟩) (fun _ h => absurd h List.not_mem_nil) dX11_write_28
      · skip
        refine va_aldq hx hb hK hP 1 0 rfl rfl (by unfold vp_in; decide) dX11_write_15 ?_
        refine W.eq (g2 := F0 m 16 ls [.ref s1]) rfl ?_
        refine lv_astore (lv' := [(5, .ref s1), (0, .ref h0), (1, .int 1), (2, .int p2), (3, .long p3)]) hx hb dX11_write_16 hl (by decide) rfl (fun ls hl => ?_)
        refine lv_aload hx hb dX11_write_18 (lv_at hl 0 rfl) ?_
        refine va_get (D := (dC, dI)) (ci := 6) (v := .int 0) (C := RX6) (T := TX6) (N := 4) hx hb hts (fun w h => List.mem_cons_of_mem _ (List.mem_append_right _ (List.mem_append_right _ (List.mem_append_right _ (List.mem_append_left _ h))))) hown hK hP 3 rfl rfl 1 (by decide) (hts (.fieldLink RX11 386 "SagMemory$Slot" "has" "Z") (wl_mem 4 rfl)) (fun _ h9 => h9) rfl dX11_write_20 ?_
        refine lv_if_ne (tgt := 29) hx hb dX11_write_23 (by decide) (fun cz12 => ?_) (fun cz12 => ?_)
        · skip
          exact absurd cz12 (by decide)
        · skip
          refine lv_bipush (v := (-6)) hx hb dX11_write_26 (by decide) ?_
          exact W.iret (v := (-6)) hx hb hr (fun t ht hW => ⟨(-6), rfl, Or.inr (Or.inr (⟨rfl, cz6, cz7⟩)), ht⟩) (fun _ h => absurd h List.not_mem_nil) dX11_write_28
      · skip
        refine va_aldq hx hb hK hP 1 0 rfl rfl (by unfold vp_in; decide) dX11_write_15 ?_
        refine W.eq (g2 := F0 m 16 ls [.ref s2]) rfl ?_
        refine lv_astore (lv' := [(5, .ref s2), (0, .ref h0), (1, .int 2), (2, .int p2), (3, .long p3)]) hx hb dX11_write_16 hl (by decide) rfl (fun ls hl => ?_)
        refine lv_aload hx hb dX11_write_18 (lv_at hl 0 rfl) ?_
        refine va_get (D := (dC, dI)) (ci := 6) (v := .int 0) (C := RX6) (T := TX6) (N := 4) hx hb hts (fun w h => List.mem_cons_of_mem _ (List.mem_append_right _ (List.mem_append_right _ (List.mem_append_right _ (List.mem_append_left _ h))))) hown hK hP 4 rfl rfl 1 (by decide) (hts (.fieldLink RX11 386 "SagMemory$Slot" "has" "Z") (wl_mem 4 rfl)) (fun _ h9 => h9) rfl dX11_write_20 ?_
        refine lv_if_ne (tgt := 29) hx hb dX11_write_23 (by decide) (fun cz13 => ?_) (fun cz13 => ?_)
        · skip
          exact absurd cz13 (by decide)
        · skip
          refine lv_bipush (v := (-6)) hx hb dX11_write_26 (by decide) ?_
          exact W.iret (v := (-6)) hx hb hr (fun t ht hW => ⟨(-6), rfl, Or.inr (Or.inr (⟨rfl, cz6, cz7⟩)), ht⟩) (fun _ h => absurd h List.not_mem_nil) dX11_write_28
      · skip
        refine va_aldq hx hb hK hP 1 0 rfl rfl (by unfold vp_in; decide) dX11_write_15 ?_
        refine W.eq (g2 := F0 m 16 ls [.ref s3]) rfl ?_
        refine lv_astore (lv' := [(5, .ref s3), (0, .ref h0), (1, .int 3), (2, .int p2), (3, .long p3)]) hx hb dX11_write_16 hl (by decide) rfl (fun ls hl => ?_)
        refine lv_aload hx hb dX11_write_18 (lv_at hl 0 rfl) ?_
        refine va_get (D := (dC, dI)) (ci := 6) (v := .int 0) (C := RX6) (T := TX6) (N := 4) hx hb hts (fun w h => List.mem_cons_of_mem _ (List.mem_append_right _ (List.mem_append_right _ (List.mem_append_right _ (List.mem_append_left _ h))))) hown hK hP 5 rfl rfl 1 (by decide) (hts (.fieldLink RX11 386 "SagMemory$Slot" "has" "Z") (wl_mem 4 rfl)) (fun _ h9 => h9) rfl dX11_write_20 ?_
        refine lv_if_ne (tgt := 29) hx hb dX11_write_23 (by decide) (fun cz14 => ?_) (fun cz14 => ?_)
        · skip
          exact absurd cz14 (by decide)
        · skip
          refine lv_bipush (v := (-6)) hx hb dX11_write_26 (by decide) ?_
          exact W.iret (v := (-6)) hx hb hr (fun t ht hW => ⟨(-6), rfl, Or.inr (Or.inr (⟨rfl, cz6, cz7⟩)), ht⟩) (fun _ h => absurd h List.not_mem_nil) dX11_write_28
    · skip
      exact absurd cz10 (by decide)
def wk_f_X11_paste : List Cond := .code yX11_paste cX11_paste 8 (some .int) :: ([.methodLink RX11 380 yX11_hasSlot, .static yX11_hasSlot, .initialized RX11, .fieldLink RX11 85 "SagMemory" "slots" "[LSagMemory$Slot;", .fieldLink RX11 386 "SagMemory$Slot" "has" "Z"] ++ (wk_f_X11_hasSlot ++ (wsX110 ++ (wsX60 ++ []))))
theorem wkg_f_X11_paste : wk_f_X11_paste.all goodWord = true := by decide +kernel
set_option maxHeartbeats 4000000 in
set_option maxRecDepth 100000 in
theorem f_X11_paste (l : Launch) (dC : Nat → ClassId) (dI : Nat → Nat → Nat) (h0 : Nat) (a0 : Nat) (a1 : Nat) (a2 : Nat) (a3 : Nat) (a4 : Nat) (a5 : Nat) (a6 : Nat) (a7 : Nat) (a8 : Nat) (a9 : Nat) (a10 : Nat) (a11 : Nat) (a12 : Nat) (a13 : Nat) (a14 : Nat) (s0 : Nat) (s1 : Nat) (s2 : Nat) (s3 : Nat) (n0 : Nat) (n1 : Nat) (n2 : Nat) (n3 : Nat) (kq : ClassId) (p1 : Int32) (p2 : Int32) (p3 : Int32) (p4 : Int32) (p5 : Int32) : Met l yX11_paste wk_f_X11_paste ({ frames := 1, cells := 0, slots := 0, locals := 20 }) (va_Pc [.ref h0, .int p1, .int p2, .int p3, .int p4, .int p5] (fun U => va_P (dC, dI) vwCl [(h0, .inr (11, [.ref a0, .ref a1, .ref a2, .ref a3, .ref a4, .ref a5, .ref a6, .ref a7, .ref a8, .ref a9, .ref a10, .ref a11, .ref a12, .ref a13, .ref a14])), (a13, .inl (kq, 4, .inr (.inr (.inr (.inr (va_up (va_up (va_up (va_up (fun _ => none) 0 (some s0)) 1 (some s1)) 2 (some s2)) 3 (some s3))))))), (s0, .inr (6, [.ref n0, .int 0, .int 0, .int 0])), (s1, .inr (6, [.ref n1, .int 0, .int 0, .int 0])), (s2, .inr (6, [.ref n2, .int 0, .int 0, .int 0])), (s3, .inr (6, [.ref n3, .int 0, .int 0, .int 0]))] U.heap ∧ va_K (dC, dI) vwCl [(kq, .object RX6)] U)) (vp_Si (fun r : Int32 => (r = (-2) ∧ p1 < (0 : Int32)) ∨ (r = (-2) ∧ ¬ p1 < (0 : Int32) ∧ (4 : Int32) ≤ p1) ∨ (r = (-2) ∧ ¬ p1 < (0 : Int32) ∧ ¬ (4 : Int32) ≤ p1 ∧ p3 < (0 : Int32)) ∨ (r = (-2) ∧ ¬ p1 < (0 : Int32) ∧ ¬ (4 : Int32) ≤ p1 ∧ ¬ p3 < (0 : Int32) ∧ (4 : Int32) ≤ p3) ∨ (r = (-6) ∧ ¬ p1 < (0 : Int32) ∧ ¬ (4 : Int32) ≤ p1 ∧ ¬ p3 < (0 : Int32) ∧ ¬ (4 : Int32) ≤ p3))) 0 0 (fun _ => False) := by
  refine Met.ofW (cc := cX11_paste) (maxL := 8) (ret := (some .int)) (by decide) rfl ?_
  intro p e s m args below meth c s₁ B hml hv
  obtain ⟨rfl, hP, hK⟩ := hv
  have hx := B.exec
  have hb := B.bytes
  have hr := B.returns
  have hts := atoms_spec (ws := wk_f_X11_paste) B.pre
  have hown : s.vm.findClass RX11 = some m.cls := findClass_of_methodNamed B.named
  have hlocks := B.notSynchronized
  have hl := lv_entry ([.ref h0, .int p1, .int p2, .int p3, .int p4, .int p5]) (n := 8) (Nat.le_of_ble_eq_true rfl)
  rw [lg_entry_eq]
  generalize (lg_sl ([.ref h0, .int p1, .int p2, .int p3, .int p4, .int p5]) ++ List.replicate (8 - (lg_sl ([.ref h0, .int p1, .int p2, .int p3, .int p4, .int p5])).length) Slot.unset).toArray = ls at hl ⊢
  have hl : lv_has ls 8 [(0, .ref h0), (1, .int p1), (2, .int p2), (3, .int p3), (4, .int p4), (5, .int p5)] := hl
  refine lv_iload_n hx hb dX11_paste_0 rfl (lv_at hl 1 rfl) ?_
  have hPc := hP.sub (ws' := []) [] rfl
  have hKc := hK.sub (tys' := []) [] rfl
  refine vp_callSi (va_Run.run (va_runS (As := [.int p1]) (rest := []) ⟨hx, hb, hml, hown, hts⟩ (f_X11_hasSlot l dC dI p1) (va_cwS 1 hts (gk_S (wl_mem 0 rfl) (wl_mem 1 rfl) (wl_mem 2 rfl) (fun w h => List.mem_cons_of_mem _ (List.mem_append_right _ (List.mem_append_left _ h))) wkg_f_X11_hasSlot) rfl rfl rfl (by decide +kernel) ⟨Nat.le_of_ble_eq_true rfl, Nat.le_of_ble_eq_true rfl⟩) ⟨fun a U g mk q => by obtain ⟨q0, qP, qK⟩ := q; exact ⟨q0, qP, va_K.moved (u := U) (U := U.calling g mk a) (Vm.Alike.refl U.vm) qK⟩, fun U hU hW => ⟨rfl, by rw [hU]; exact hPc, va_K.moved hW.alike hKc⟩⟩ rfl rfl hl.1 rfl (lv_room (Nat.le_of_ble_eq_true rfl)) dX11_paste_1 ⟨Nat.le_of_ble_eq_true rfl, Nat.le_of_ble_eq_true rfl⟩)) (fun rz2 hz1 => ?_)
  rcases hz1 with ⟨rfl, cz3⟩ | ⟨rfl, cz4, cz5⟩ | ⟨rfl, cz6, cz7⟩
  · skip
    refine lv_if_eq (tgt := 14) hx hb dX11_paste_4 (by decide) (fun cz8 => ?_) (fun cz8 => ?_)
    · skip
      refine lv_bipush (v := (-2)) hx hb dX11_paste_14 (by decide) ?_
      exact W.iret (v := (-2)) hx hb hr (fun t ht hW => ⟨(-2), rfl, Or.inl ⟨rfl, cz3⟩, ht⟩) (fun _ h => absurd h List.not_mem_nil) dX11_paste_16
    · skip
      exact absurd cz8 (by decide)
  · skip
    refine lv_if_eq (tgt := 14) hx hb dX11_paste_4 (by decide) (fun cz9 => ?_) (fun cz9 => ?_)
    · skip
      refine lv_bipush (v := (-2)) hx hb dX11_paste_14 (by decide) ?_
      exact W.iret (v := (-2)) hx hb hr (fun t ht hW => ⟨(-2), rfl, Or.inr (Or.inl ⟨rfl, cz4, cz5⟩), ht⟩) (fun _ h => absurd h List.not_mem_nil) dX11_paste_16
    · skip
      exact absurd cz9 (by decide)
  · skip
    refine lv_if_eq (tgt := 14) hx hb dX11_paste_4 (by decide) (fun cz10 => ?_) (fun cz10 => ?_)
    · skip
      exact absurd cz10 (by decide)
    · skip
      refine lv_iload_n hx hb dX11_paste_7 rfl (lv_at hl 3 rfl) ?_
      have hPc := hP.sub (ws' := []) [] rfl
      have hKc := hK.sub (tys' := []) [] rfl
      refine vp_callSi (va_Run.run (va_runS (As := [.int p3]) (rest := []) ⟨hx, hb, hml, hown, hts⟩ (f_X11_hasSlot l dC dI p3) (va_cwS 1 hts (gk_S (wl_mem 0 rfl) (wl_mem 1 rfl) (wl_mem 2 rfl) (fun w h => List.mem_cons_of_mem _ (List.mem_append_right _ (List.mem_append_left _ h))) wkg_f_X11_hasSlot) rfl rfl rfl (by decide +kernel) ⟨Nat.le_of_ble_eq_true rfl, Nat.le_of_ble_eq_true rfl⟩) ⟨fun a U g mk q => by obtain ⟨q0, qP, qK⟩ := q; exact ⟨q0, qP, va_K.moved (u := U) (U := U.calling g mk a) (Vm.Alike.refl U.vm) qK⟩, fun U hU hW => ⟨rfl, by rw [hU]; exact hPc, va_K.moved hW.alike hKc⟩⟩ rfl rfl hl.1 rfl (lv_room (Nat.le_of_ble_eq_true rfl)) dX11_paste_8 ⟨Nat.le_of_ble_eq_true rfl, Nat.le_of_ble_eq_true rfl⟩)) (fun rz12 hz11 => ?_)
      rcases hz11 with ⟨rfl, cz13⟩ | ⟨rfl, cz14, cz15⟩ | ⟨rfl, cz16, cz17⟩
      · skip
        refine lv_if_ne (tgt := 17) hx hb dX11_paste_11 (by decide) (fun cz18 => ?_) (fun cz18 => ?_)
        · skip
          exact absurd cz18 (by decide)
        · skip
          refine lv_bipush (v := (-2)) hx hb dX11_paste_14 (by decide) ?_
          exact W.iret (v := (-2)) hx hb hr (fun t ht hW => ⟨(-2), rfl, Or.inr (Or.inr (Or.inl ⟨rfl, cz6, cz7, cz13⟩)), ht⟩) (fun _ h => absurd h List.not_mem_nil) dX11_paste_16
      · skip
        refine lv_if_ne (tgt := 17) hx hb dX11_paste_11 (by decide) (fun cz19 => ?_) (fun cz19 => ?_)
        · skip
          exact absurd cz19 (by decide)
        · skip
          refine lv_bipush (v := (-2)) hx hb dX11_paste_14 (by decide) ?_
          exact W.iret (v := (-2)) hx hb hr (fun t ht hW => ⟨(-2), rfl, Or.inr (Or.inr (Or.inr (Or.inl ⟨rfl, cz6, cz7, cz14, cz15⟩))), ht⟩) (fun _ h => absurd h List.not_mem_nil) dX11_paste_16
      · skip
        refine lv_if_ne (tgt := 17) hx hb dX11_paste_11 (by decide) (fun cz20 => ?_) (fun cz20 => ?_)
        · skip
          refine lv_aload_n hx hb dX11_paste_17 rfl (lv_at hl 0 rfl) ?_
          refine va_get (D := (dC, dI)) (ci := 11) (v := .ref a13) (C := RX11) (T := TX11) (N := 15) hx hb hts (fun w h => List.mem_cons_of_mem _ (List.mem_append_right _ (List.mem_append_right _ (List.mem_append_left _ h)))) hown hK hP 0 rfl rfl 13 (by decide) (hts (.fieldLink RX11 85 "SagMemory" "slots" "[LSagMemory$Slot;") (wl_mem 3 rfl)) (fun _ h9 => h9) rfl dX11_paste_18 ?_
          refine lv_iload_n hx hb dX11_paste_21 rfl (lv_at hl 1 rfl) ?_
          have z0 : ¬ p1.toInt < (0 : Int) := fun h9 => cz6 (zi_lt.mpr h9)
          have z1 : ¬ (4 : Int) ≤ p1.toInt := fun h9 => cz7 (zi_le.mpr h9)
          rcases (show p1 = 0 ∨ p1 = 1 ∨ p1 = 2 ∨ p1 = 3 by simp only [zi_eq]; show p1.toInt = 0 ∨ p1.toInt = 1 ∨ p1.toInt = 2 ∨ p1.toInt = 3; omega) with rfl | rfl | rfl | rfl
          · skip
            refine va_aldq hx hb hK hP 1 0 rfl rfl (by unfold vp_in; decide) dX11_paste_22 ?_
            refine W.eq (g2 := F0 m 23 ls [.ref s0]) rfl ?_
            refine lv_astore (lv' := [(6, .ref s0), (0, .ref h0), (1, .int 0), (2, .int p2), (3, .int p3), (4, .int p4), (5, .int p5)]) hx hb dX11_paste_23 hl (by decide) rfl (fun ls hl => ?_)
            refine lv_aload_n hx hb dX11_paste_25 rfl (lv_at hl 1 rfl) ?_
            refine va_get (D := (dC, dI)) (ci := 11) (v := .ref a13) (C := RX11) (T := TX11) (N := 15) hx hb hts (fun w h => List.mem_cons_of_mem _ (List.mem_append_right _ (List.mem_append_right _ (List.mem_append_left _ h)))) hown hK hP 0 rfl rfl 13 (by decide) (hts (.fieldLink RX11 85 "SagMemory" "slots" "[LSagMemory$Slot;") (wl_mem 3 rfl)) (fun _ h9 => h9) rfl dX11_paste_26 ?_
            refine lv_iload_n hx hb dX11_paste_29 rfl (lv_at hl 4 rfl) ?_
            have z3 : ¬ p3.toInt < (0 : Int) := fun h9 => cz16 (zi_lt.mpr h9)
            have z4 : ¬ (4 : Int) ≤ p3.toInt := fun h9 => cz17 (zi_le.mpr h9)
            rcases (show p3 = 0 ∨ p3 = 1 ∨ p3 = 2 ∨ p3 = 3 by simp only [zi_eq]; show p3.toInt = 0 ∨ p3.toInt = 1 ∨ p3.toInt = 2 ∨ p3.toInt = 3; omega) with rfl | rfl | rfl | rfl
            · skip
              refine va_aldq hx hb hK hP 1 0 rfl rfl (by unfold vp_in; decide) dX11_paste_30 ?_
              refine W.eq (g2 := F0 m 31 ls [.ref s0]) rfl ?_
              refine lv_astore (lv' := [(7, .ref s0), (6, .ref s0), (0, .ref h0), (1, .int 0), (2, .int p2), (3, .int 0), (4, .int p4), (5, .int p5)]) hx hb dX11_paste_31 hl (by decide) rfl (fun ls hl => ?_)
              refine lv_aload hx hb dX11_paste_33 (lv_at hl 1 rfl) ?_
              refine va_get (D := (dC, dI)) (ci := 6) (v := .int 0) (C := RX6) (T := TX6) (N := 4) hx hb hts (fun w h => List.mem_cons_of_mem _ (List.mem_append_right _ (List.mem_append_right _ (List.mem_append_right _ (List.mem_append_left _ h))))) hown hK hP 2 rfl rfl 1 (by decide) (hts (.fieldLink RX11 386 "SagMemory$Slot" "has" "Z") (wl_mem 4 rfl)) (fun _ h9 => h9) rfl dX11_paste_35 ?_
              refine lv_if_eq (tgt := 49) hx hb dX11_paste_38 (by decide) (fun cz21 => ?_) (fun cz21 => ?_)
              · skip
                refine lv_bipush (v := (-6)) hx hb dX11_paste_49 (by decide) ?_
                exact W.iret (v := (-6)) hx hb hr (fun t ht hW => ⟨(-6), rfl, Or.inr (Or.inr (Or.inr (Or.inr (⟨rfl, cz6, cz7, cz16, cz17⟩)))), ht⟩) (fun _ h => absurd h List.not_mem_nil) dX11_paste_51
              · skip
                exact absurd cz21 (by decide)
            · skip
              refine va_aldq hx hb hK hP 1 0 rfl rfl (by unfold vp_in; decide) dX11_paste_30 ?_
              refine W.eq (g2 := F0 m 31 ls [.ref s1]) rfl ?_
              refine lv_astore (lv' := [(7, .ref s1), (6, .ref s0), (0, .ref h0), (1, .int 0), (2, .int p2), (3, .int 1), (4, .int p4), (5, .int p5)]) hx hb dX11_paste_31 hl (by decide) rfl (fun ls hl => ?_)
              refine lv_aload hx hb dX11_paste_33 (lv_at hl 1 rfl) ?_
              refine va_get (D := (dC, dI)) (ci := 6) (v := .int 0) (C := RX6) (T := TX6) (N := 4) hx hb hts (fun w h => List.mem_cons_of_mem _ (List.mem_append_right _ (List.mem_append_right _ (List.mem_append_right _ (List.mem_append_left _ h))))) hown hK hP 2 rfl rfl 1 (by decide) (hts (.fieldLink RX11 386 "SagMemory$Slot" "has" "Z") (wl_mem 4 rfl)) (fun _ h9 => h9) rfl dX11_paste_35 ?_
              refine lv_if_eq (tgt := 49) hx hb dX11_paste_38 (by decide) (fun cz22 => ?_) (fun cz22 => ?_)
              · skip
                refine lv_bipush (v := (-6)) hx hb dX11_paste_49 (by decide) ?_
                exact W.iret (v := (-6)) hx hb hr (fun t ht hW => ⟨(-6), rfl, Or.inr (Or.inr (Or.inr (Or.inr (⟨rfl, cz6, cz7, cz16, cz17⟩)))), ht⟩) (fun _ h => absurd h List.not_mem_nil) dX11_paste_51
              · skip
                exact absurd cz22 (by decide)
            · skip
              refine va_aldq hx hb hK hP 1 0 rfl rfl (by unfold vp_in; decide) dX11_paste_30 ?_
              refine W.eq (g2 := F0 m 31 ls [.ref s2]) rfl ?_
              refine lv_astore (lv' := [(7, .ref s2), (6, .ref s0), (0, .ref h0), (1, .int 0), (2, .int p2), (3, .int 2), (4, .int p4), (5, .int p5)]) hx hb dX11_paste_31 hl (by decide) rfl (fun ls hl => ?_)
              refine lv_aload hx hb dX11_paste_33 (lv_at hl 1 rfl) ?_
              refine va_get (D := (dC, dI)) (ci := 6) (v := .int 0) (C := RX6) (T := TX6) (N := 4) hx hb hts (fun w h => List.mem_cons_of_mem _ (List.mem_append_right _ (List.mem_append_right _ (List.mem_append_right _ (List.mem_append_left _ h))))) hown hK hP 2 rfl rfl 1 (by decide) (hts (.fieldLink RX11 386 "SagMemory$Slot" "has" "Z") (wl_mem 4 rfl)) (fun _ h9 => h9) rfl dX11_paste_35 ?_
              refine lv_if_eq (tgt := 49) hx hb dX11_paste_38 (by decide) (fun cz23 => ?_) (fun cz23 => ?_)
              · skip
                refine lv_bipush (v := (-6)) hx hb dX11_paste_49 (by decide) ?_
                exact W.iret (v := (-6)) hx hb hr (fun t ht hW => ⟨(-6), rfl, Or.inr (Or.inr (Or.inr (Or.inr (⟨rfl, cz6, cz7, cz16, cz17⟩)))), ht⟩) (fun _ h => absurd h List.not_mem_nil) dX11_paste_51
              · skip
                exact absurd cz23 (by decide)
            · skip
              refine va_aldq hx hb hK hP 1 0 rfl rfl (by unfold vp_in; decide) dX11_paste_30 ?_
              refine W.eq (g2 := F0 m 31 ls [.ref s3]) rfl ?_
              refine lv_astore (lv' := [(7, .ref s3), (6, .ref s0), (0, .ref h0), (1, .int 0), (2, .int p2), (3, .int 3), (4, .int p4), (5, .int p5)]) hx hb dX11_paste_31 hl (by decide) rfl (fun ls hl => ?_)
              refine lv_aload hx hb dX11_paste_33 (lv_at hl 1 rfl) ?_
              refine va_get (D := (dC, dI)) (ci := 6) (v := .int 0) (C := RX6) (T := TX6) (N := 4) hx hb hts (fun w h => List.mem_cons_of_mem _ (List.mem_append_right _ (List.mem_append_right _ (List.mem_append_right _ (List.mem_append_left _ h))))) hown hK hP 2 rfl rfl 1 (by decide) (hts (.fieldLink RX11 386 "SagMemory$Slot" "has" "Z") (wl_mem 4 rfl)) (fun _ h9 => h9) rfl dX11_paste_35 ?_
              refine lv_if_eq (tgt := 49) hx hb dX11_paste_38 (by decide) (fun cz24 => ?_) (fun cz24 => ?_)
              · skip
                refine lv_bipush (v := (-6)) hx hb dX11_paste_49 (by decide) ?_
                exact W.iret (v := (-6)) hx hb hr (fun t ht hW => ⟨(-6), rfl, Or.inr (Or.inr (Or.inr (Or.inr (⟨rfl, cz6, cz7, cz16, cz17⟩)))), ht⟩) (fun _ h => absurd h List.not_mem_nil) dX11_paste_51
              · skip
                exact absurd cz24 (by decide)
          · skip
            refine va_aldq hx hb hK hP 1 0 rfl rfl (by unfold vp_in; decide) dX11_paste_22 ?_
            refine W.eq (g2 := F0 m 23 ls [.ref s1]) rfl ?_
            refine lv_astore (lv' := [(6, .ref s1), (0, .ref h0), (1, .int 1), (2, .int p2), (3, .int p3), (4, .int p4), (5, .int p5)]) hx hb dX11_paste_23 hl (by decide) rfl (fun ls hl => ?_)
            refine lv_aload_n hx hb dX11_paste_25 rfl (lv_at hl 1 rfl) ?_
            refine va_get (D := (dC, dI)) (ci := 11) (v := .ref a13) (C := RX11) (T := TX11) (N := 15) hx hb hts (fun w h => List.mem_cons_of_mem _ (List.mem_append_right _ (List.mem_append_right _ (List.mem_append_left _ h)))) hown hK hP 0 rfl rfl 13 (by decide) (hts (.fieldLink RX11 85 "SagMemory" "slots" "[LSagMemory$Slot;") (wl_mem 3 rfl)) (fun _ h9 => h9) rfl dX11_paste_26 ?_
            refine lv_iload_n hx hb dX11_paste_29 rfl (lv_at hl 4 rfl) ?_
            have z3 : ¬ p3.toInt < (0 : Int) := fun h9 => cz16 (zi_lt.mpr h9)
            have z4 : ¬ (4 : Int) ≤ p3.toInt := fun h9 => cz17 (zi_le.mpr h9)
            rcases (show p3 = 0 ∨ p3 = 1 ∨ p3 = 2 ∨ p3 = 3 by simp only [zi_eq]; show p3.toInt = 0 ∨ p3.toInt = 1 ∨ p3.toInt = 2 ∨ p3.toInt = 3; omega) with rfl | rfl | rfl | rfl
            · skip
              refine va_aldq hx hb hK hP 1 0 rfl rfl (by unfold vp_in; decide) dX11_paste_30 ?_
              refine W.eq (g2 := F0 m 31 ls [.ref s0]) rfl ?_
              refine lv_astore (lv' := [(7, .ref s0), (6, .ref s1), (0, .ref h0), (1, .int 1), (2, .int p2), (3, .int 0), (4, .int p4), (5, .int p5)]) hx hb dX11_paste_31 hl (by decide) rfl (fun ls hl => ?_)
              refine lv_aload hx hb dX11_paste_33 (lv_at hl 1 rfl) ?_
              refine va_get (D := (dC, dI)) (ci := 6) (v := .int 0) (C := RX6) (T := TX6) (N := 4) hx hb hts (fun w h => List.mem_cons_of_mem _ (List.mem_append_right _ (List.mem_append_right _ (List.mem_append_right _ (List.mem_append_left _ h))))) hown hK hP 3 rfl rfl 1 (by decide) (hts (.fieldLink RX11 386 "SagMemory$Slot" "has" "Z") (wl_mem 4 rfl)) (fun _ h9 => h9) rfl dX11_paste_35 ?_
              refine lv_if_eq (tgt := 49) hx hb dX11_paste_38 (by decide) (fun cz25 => ?_) (fun cz25 => ?_)
              · skip
                refine lv_bipush (v := (-6)) hx hb dX11_paste_49 (by decide) ?_
                exact W.iret (v := (-6)) hx hb hr (fun t ht hW => ⟨(-6), rfl, Or.inr (Or.inr (Or.inr (Or.inr (⟨rfl, cz6, cz7, cz16, cz17⟩)))), ht⟩) (fun _ h => absurd h List.not_mem_nil) dX11_paste_51
              · skip
                exact absurd cz25 (by decide)
            · skip
              refine va_aldq hx hb hK hP 1 0 rfl rfl (by unfold vp_in; decide) dX11_paste_30 ?_
              refine W.eq (g2 := F0 m 31 ls [.ref s1]) rfl ?_
              refine lv_astore (lv' := [(7, .ref s1), (6, .ref s1), (0, .ref h0), (1, .int 1), (2, .int p2), (3, .int 1), (4, .int p4), (5, .int p5)]) hx hb dX11_paste_31 hl (by decide) rfl (fun ls hl => ?_)
              refine lv_aload hx hb dX11_paste_33 (lv_at hl 1 rfl) ?_
              refine va_get (D := (dC, dI)) (ci := 6) (v := .int 0) (C := RX6) (T := TX6) (N := 4) hx hb hts (fun w h => List.mem_cons_of_mem _ (List.mem_append_right _ (List.mem_append_right _ (List.mem_append_right _ (List.mem_append_left _ h))))) hown hK hP 3 rfl rfl 1 (by decide) (hts (.fieldLink RX11 386 "SagMemory$Slot" "has" "Z") (wl_mem 4 rfl)) (fun _ h9 => h9) rfl dX11_paste_35 ?_
              refine lv_if_eq (tgt := 49) hx hb dX11_paste_38 (by decide) (fun cz26 => ?_) (fun cz26 => ?_)
              · skip
                refine lv_bipush (v := (-6)) hx hb dX11_paste_49 (by decide) ?_
                exact W.iret (v := (-6)) hx hb hr (fun t ht hW => ⟨(-6), rfl, Or.inr (Or.inr (Or.inr (Or.inr (⟨rfl, cz6, cz7, cz16, cz17⟩)))), ht⟩) (fun _ h => absurd h List.not_mem_nil) dX11_paste_51
              · skip
                exact absurd cz26 (by decide)
            · skip
              refine va_aldq hx hb hK hP 1 0 rfl rfl (by unfold vp_in; decide) dX11_paste_30 ?_
              refine W.eq (g2 := F0 m 31 ls [.ref s2]) rfl ?_
              refine lv_astore (lv' := [(7, .ref s2), (6, .ref s1), (0, .ref h0), (1, .int 1), (2, .int p2), (3, .int 2), (4, .int p4), (5, .int p5)]) hx hb dX11_paste_31 hl (by decide) rfl (fun ls hl => ?_)
              refine lv_aload hx hb dX11_paste_33 (lv_at hl 1 rfl) ?_
              refine va_get (D := (dC, dI)) (ci := 6) (v := .int 0) (C := RX6) (T := TX6) (N := 4) hx hb hts (fun w h => List.mem_cons_of_mem _ (List.mem_append_right _ (List.mem_append_right _ (List.mem_append_right _ (List.mem_append_left _ h))))) hown hK hP 3 rfl rfl 1 (by decide) (hts (.fieldLink RX11 386 "SagMemory$Slot" "has" "Z") (wl_mem 4 rfl)) (fun _ h9 => h9) rfl dX11_paste_35 ?_
              refine lv_if_eq (tgt := 49) hx hb dX11_paste_38 (by decide) (fun cz27 => ?_) (fun cz27 => ?_)
              · skip
                refine lv_bipush (v := (-6)) hx hb dX11_paste_49 (by decide) ?_
                exact W.iret (v := (-6)) hx hb hr (fun t ht hW => ⟨(-6), rfl, Or.inr (Or.inr (Or.inr (Or.inr (⟨rfl, cz6, cz7, cz16, cz17⟩)))), ht⟩) (fun _ h => absurd h List.not_mem_nil) dX11_paste_51
              · skip
                exact absurd cz27 (by decide)
            · skip
              refine va_aldq hx hb hK hP 1 0 rfl rfl (by unfold vp_in; decide) dX11_paste_30 ?_
              refine W.eq (g2 := F0 m 31 ls [.ref s3]) rfl ?_
              refine lv_astore (lv' := [(7, .ref s3), (6, .ref s1), (0, .ref h0), (1, .int 1), (2, .int p2), (3, .int 3), (4, .int p4), (5, .int p5)]) hx hb dX11_paste_31 hl (by decide) rfl (fun ls hl => ?_)
              refine lv_aload hx hb dX11_paste_33 (lv_at hl 1 rfl) ?_
              refine va_get (D := (dC, dI)) (ci := 6) (v := .int 0) (C := RX6) (T := TX6) (N := 4) hx hb hts (fun w h => List.mem_cons_of_mem _ (List.mem_append_right _ (List.mem_append_right _ (List.mem_append_right _ (List.mem_append_left _ h))))) hown hK hP 3 rfl rfl 1 (by decide) (hts (.fieldLink RX11 386 "SagMemory$Slot" "has" "Z") (wl_mem 4 rfl)) (fun _ h9 => h9) rfl dX11_paste_35 ?_
              refine lv_if_eq (tgt := 49) hx hb dX11_paste_38 (by decide) (fun cz28 => ?_) (fun cz28 => ?_)
              · skip
                refine lv_bipush (v := (-6)) hx hb dX11_paste_49 (by decide) ?_
                exact W.iret (v := (-6)) hx hb hr (fun t ht hW => ⟨(-6), rfl, Or.inr (Or.inr (Or.inr (Or.inr (⟨rfl, cz6, cz7, cz16, cz17⟩)))), ht⟩) (fun _ h => absurd h List.not_mem_nil) dX11_paste_51
              · skip
                exact absurd cz28 (by decide)
          · skip
            refine va_aldq hx hb hK hP 1 0 rfl rfl (by unfold vp_in; decide) dX11_paste_22 ?_
            refine W.eq (g2 := F0 m 23 ls [.ref s2]) rfl ?_
            refine lv_astore (lv' := [(6, .ref s2), (0, .ref h0), (1, .int 2), (2, .int p2), (3, .int p3), (4, .int p4), (5, .int p5)]) hx hb dX11_paste_23 hl (by decide) rfl (fun ls hl => ?_)
            refine lv_aload_n hx hb dX11_paste_25 rfl (lv_at hl 1 rfl) ?_
            refine va_get (D := (dC, dI)) (ci := 11) (v := .ref a13) (C := RX11) (T := TX11) (N := 15) hx hb hts (fun w h => List.mem_cons_of_mem _ (List.mem_append_right _ (List.mem_append_right _ (List.mem_append_left _ h)))) hown hK hP 0 rfl rfl 13 (by decide) (hts (.fieldLink RX11 85 "SagMemory" "slots" "[LSagMemory$Slot;") (wl_mem 3 rfl)) (fun _ h9 => h9) rfl dX11_paste_26 ?_
            refine lv_iload_n hx hb dX11_paste_29 rfl (lv_at hl 4 rfl) ?_
            have z3 : ¬ p3.toInt < (0 : Int) := fun h9 => cz16 (zi_lt.mpr h9)
            have z4 : ¬ (4 : Int) ≤ p3.toInt := fun h9 => cz17 (zi_le.mpr h9)
            rcases (show p3 = 0 ∨ p3 = 1 ∨ p3 = 2 ∨ p3 = 3 by simp only [zi_eq]; show p3.toInt = 0 ∨ p3.toInt = 1 ∨ p3.toInt = 2 ∨ p3.toInt = 3; omega) with rfl | rfl | rfl | rfl
            · skip
              refine va_aldq hx hb hK hP 1 0 rfl rfl (by unfold vp_in; decide) dX11_paste_30 ?_
              refine W.eq (g2 := F0 m 31 ls [.ref s0]) rfl ?_
              refine lv_astore (lv' := [(7, .ref s0), (6, .ref s2), (0, .ref h0), (1, .int 2), (2, .int p2), (3, .int 0), (4, .int p4), (5, .int p5)]) hx hb dX11_paste_31 hl (by decide) rfl (fun ls hl => ?_)
              refine lv_aload hx hb dX11_paste_33 (lv_at hl 1 rfl) ?_
              refine va_get (D := (dC, dI)) (ci := 6) (v := .int 0) (C := RX6) (T := TX6) (N := 4) hx hb hts (fun w h => List.mem_cons_of_mem _ (List.mem_append_right _ (List.mem_append_right _ (List.mem_append_right _ (List.mem_append_left _ h))))) hown hK hP 4 rfl rfl 1 (by decide) (hts (.fieldLink RX11 386 "SagMemory$Slot" "has" "Z") (wl_mem 4 rfl)) (fun _ h9 => h9) rfl dX11_paste_35 ?_
              refine lv_if_eq (tgt := 49) hx hb dX11_paste_38 (by decide) (fun cz29 => ?_) (fun cz29 => ?_)
              · skip
                refine lv_bipush (v := (-6)) hx hb dX11_paste_49 (by decide) ?_
                exact W.iret (v := (-6)) hx hb hr (fun t ht hW => ⟨(-6), rfl, Or.inr (Or.inr (Or.inr (Or.inr (⟨rfl, cz6, cz7, cz16, cz17⟩)))), ht⟩) (fun _ h => absurd h List.not_mem_nil) dX11_paste_51
              · skip
                exact absurd cz29 (by decide)
            · skip
              refine va_aldq hx hb hK hP 1 0 rfl rfl (by unfold vp_in; decide) dX11_paste_30 ?_
              refine W.eq (g2 := F0 m 31 ls [.ref s1]) rfl ?_
              refine lv_astore (lv' := [(7, .ref s1), (6, .ref s2), (0, .ref h0), (1, .int 2), (2, .int p2), (3, .int 1), (4, .int p4), (5, .int p5)]) hx hb dX11_paste_31 hl (by decide) rfl (fun ls hl => ?_)
              refine lv_aload hx hb dX11_paste_33 (lv_at hl 1 rfl) ?_
              refine va_get (D := (dC, dI)) (ci := 6) (v := .int 0) (C := RX6) (T := TX6) (N := 4) hx hb hts (fun w h => List.mem_cons_of_mem _ (List.mem_append_right _ (List.mem_append_right _ (List.mem_append_right _ (List.mem_append_left _ h))))) hown hK hP 4 rfl rfl 1 (by decide) (hts (.fieldLink RX11 386 "SagMemory$Slot" "has" "Z") (wl_mem 4 rfl)) (fun _ h9 => h9) rfl dX11_paste_35 ?_
              refine lv_if_eq (tgt := 49) hx hb dX11_paste_38 (by decide) (fun cz30 => ?_) (fun cz30 => ?_)
              · skip
                refine lv_bipush (v := (-6)) hx hb dX11_paste_49 (by decide) ?_
                exact W.iret (v := (-6)) hx hb hr (fun t ht hW => ⟨(-6), rfl, Or.inr (Or.inr (Or.inr (Or.inr (⟨rfl, cz6, cz7, cz16, cz17⟩)))), ht⟩) (fun _ h => absurd h List.not_mem_nil) dX11_paste_51
              · skip
                exact absurd cz30 (by decide)
            · skip
              refine va_aldq hx hb hK hP 1 0 rfl rfl (by unfold vp_in; decide) dX11_paste_30 ?_
              refine W.eq (g2 := F0 m 31 ls [.ref s2]) rfl ?_
              refine lv_astore (lv' := [(7, .ref s2), (6, .ref s2), (0, .ref h0), (1, .int 2), (2, .int p2), (3, .int 2), (4, .int p4), (5, .int p5)]) hx hb dX11_paste_31 hl (by decide) rfl (fun ls hl => ?_)
              refine lv_aload hx hb dX11_paste_33 (lv_at hl 1 rfl) ?_
              refine va_get (D := (dC, dI)) (ci := 6) (v := .int 0) (C := RX6) (T := TX6) (N := 4) hx hb hts (fun w h => List.mem_cons_of_mem _ (List.mem_append_right _ (List.mem_append_right _ (List.mem_append_right _ (List.mem_append_left _ h))))) hown hK hP 4 rfl rfl 1 (by decide) (hts (.fieldLink RX11 386 "SagMemory$Slot" "has" "Z") (wl_mem 4 rfl)) (fun _ h9 => h9) rfl dX11_paste_35 ?_
              refine lv_if_eq (tgt := 49) hx hb dX11_paste_38 (by decide) (fun cz31 => ?_) (fun cz31 => ?_)
              · skip
                refine lv_bipush (v := (-6)) hx hb dX11_paste_49 (by decide) ?_
                exact W.iret (v := (-6)) hx hb hr (fun t ht hW => ⟨(-6), rfl, Or.inr (Or.inr (Or.inr (Or.inr (⟨rfl, cz6, cz7, cz16, cz17⟩)))), ht⟩) (fun _ h => absurd h List.not_mem_nil) dX11_paste_51
              · skip
                exact absurd cz31 (by decide)
            · skip
              refine va_aldq hx hb hK hP 1 0 rfl rfl (by unfold vp_in; decide) dX11_paste_30 ?_
              refine W.eq (g2 := F0 m 31 ls [.ref s3]) rfl ?_
              refine lv_astore (lv' := [(7, .ref s3), (6, .ref s2), (0, .ref h0), (1, .int 2), (2, .int p2), (3, .int 3), (4, .int p4), (5, .int p5)]) hx hb dX11_paste_31 hl (by decide) rfl (fun ls hl => ?_)
              refine lv_aload hx hb dX11_paste_33 (lv_at hl 1 rfl) ?_
              refine va_get (D := (dC, dI)) (ci := 6) (v := .int 0) (C := RX6) (T := TX6) (N := 4) hx hb hts (fun w h => List.mem_cons_of_mem _ (List.mem_append_right _ (List.mem_append_right _ (List.mem_append_right _ (List.mem_append_left _ h))))) hown hK hP 4 rfl rfl 1 (by decide) (hts (.fieldLink RX11 386 "SagMemory$Slot" "has" "Z") (wl_mem 4 rfl)) (fun _ h9 => h9) rfl dX11_paste_35 ?_
              refine lv_if_eq (tgt := 49) hx hb dX11_paste_38 (by decide) (fun cz32 => ?_) (fun cz32 => ?_)
              · skip
                refine lv_bipush (v := (-6)) hx hb dX11_paste_49 (by decide) ?_
                exact W.iret (v := (-6)) hx hb hr (fun t ht hW => ⟨(-6), rfl, Or.inr (Or.inr (Or.inr (Or.inr (⟨rfl, cz6, cz7, cz16, cz17⟩)))), ht⟩) (fun _ h => absurd h List.not_mem_nil) dX11_paste_51
              · skip
                exact absurd cz32 (by decide)
          · skip
            refine va_aldq hx hb hK hP 1 0 rfl rfl (by unfold vp_in; decide) dX11_paste_22 ?_
            refine W.eq (g2 := F0 m 23 ls [.ref s3]) rfl ?_
            refine lv_astore (lv' := [(6, .ref s3), (0, .ref h0), (1, .int 3), (2, .int p2), (3, .int p3), (4, .int p4), (5, .int p5)]) hx hb dX11_paste_23 hl (by decide) rfl (fun ls hl => ?_)
            refine lv_aload_n hx hb dX11_paste_25 rfl (lv_at hl 1 rfl) ?_
            refine va_get (D := (dC, dI)) (ci := 11) (v := .ref a13) (C := RX11) (T := TX11) (N := 15) hx hb hts (fun w h => List.mem_cons_of_mem _ (List.mem_append_right _ (List.mem_append_right _ (List.mem_append_left _ h)))) hown hK hP 0 rfl rfl 13 (by decide) (hts (.fieldLink RX11 85 "SagMemory" "slots" "[LSagMemory$Slot;") (wl_mem 3 rfl)) (fun _ h9 => h9) rfl dX11_paste_26 ?_
            refine lv_iload_n hx hb dX11_paste_29 rfl (lv_at hl 4 rfl) ?_
            have z3 : ¬ p3.toInt < (0 : Int) := fun h9 => cz16 (zi_lt.mpr h9)
            have z4 : ¬ (4 : Int) ≤ p3.toInt := fun h9 => cz17 (zi_le.mpr h9)
            rcases (show p3 = 0 ∨ p3 = 1 ∨ p3 = 2 ∨ p3 = 3 by simp only [zi_eq]; show p3.toInt = 0 ∨ p3.toInt = 1 ∨ p3.toInt = 2 ∨ p3.toInt = 3; omega) with rfl | rfl | rfl | rfl
            · skip
              refine va_aldq hx hb hK hP 1 0 rfl rfl (by unfold vp_in; decide) dX11_paste_30 ?_
              refine W.eq (g2 := F0 m 31 ls [.ref s0]) rfl ?_
              refine lv_astore (lv' := [(7, .ref s0), (6, .ref s3), (0, .ref h0), (1, .int 3), (2, .int p2), (3, .int 0), (4, .int p4), (5, .int p5)]) hx hb dX11_paste_31 hl (by decide) rfl (fun ls hl => ?_)
              refine lv_aload hx hb dX11_paste_33 (lv_at hl 1 rfl) ?_
              refine va_get (D := (dC, dI)) (ci := 6) (v := .int 0) (C := RX6) (T := TX6) (N := 4) hx hb hts (fun w h => List.mem_cons_of_mem _ (List.mem_append_right _ (List.mem_append_right _ (List.mem_append_right _ (List.mem_append_left _ h))))) hown hK hP 5 rfl rfl 1 (by decide) (hts (.fieldLink RX11 386 "SagMemory$Slot" "has" "Z") (wl_mem 4 rfl)) (fun _ h9 => h9) rfl dX11_paste_35 ?_
              refine lv_if_eq (tgt := 49) hx hb dX11_paste_38 (by decide) (fun cz33 => ?_) (fun cz33 => ?_)
              · skip
                refine lv_bipush (v := (-6)) hx hb dX11_paste_49 (by decide) ?_
                exact W.iret (v := (-6)) hx hb hr (fun t ht hW => ⟨(-6), rfl, Or.inr (Or.inr (Or.inr (Or.inr (⟨rfl, cz6, cz7, cz16, cz17⟩)))), ht⟩) (fun _ h => absurd h List.not_mem_nil) dX11_paste_51
              · skip
                exact absurd cz33 (by decide)
            · skip
              refine va_aldq hx hb hK hP 1 0 rfl rfl (by unfold vp_in; decide) dX11_paste_30 ?_
              refine W.eq (g2 := F0 m 31 ls [.ref s1]) rfl ?_
              refine lv_astore (lv' := [(7, .ref s1), (6, .ref s3), (0, .ref h0), (1, .int 3), (2, .int p2), (3, .int 1), (4, .int p4), (5, .int p5)]) hx hb dX11_paste_31 hl (by decide) rfl (fun ls hl => ?_)
              refine lv_aload hx hb dX11_paste_33 (lv_at hl 1 rfl) ?_
              refine va_get (D := (dC, dI)) (ci := 6) (v := .int 0) (C := RX6) (T := TX6) (N := 4) hx hb hts (fun w h => List.mem_cons_of_mem _ (List.mem_append_right _ (List.mem_append_right _ (List.mem_append_right _ (List.mem_append_left _ h))))) hown hK hP 5 rfl rfl 1 (by decide) (hts (.fieldLink RX11 386 "SagMemory$Slot" "has" "Z") (wl_mem 4 rfl)) (fun _ h9 => h9) rfl dX11_paste_35 ?_
              refine lv_if_eq (tgt := 49) hx hb dX11_paste_38 (by decide) (fun cz34 => ?_) (fun cz34 => ?_)
              · skip
                refine lv_bipush (v := (-6)) hx hb dX11_paste_49 (by decide) ?_
                exact W.iret (v := (-6)) hx hb hr (fun t ht hW => ⟨(-6), rfl, Or.inr (Or.inr (Or.inr (Or.inr (⟨rfl, cz6, cz7, cz16, cz17⟩)))), ht⟩) (fun _ h => absurd h List.not_mem_nil) dX11_paste_51
              · skip
                exact absurd cz34 (by decide)
            · skip
              refine va_aldq hx hb hK hP 1 0 rfl rfl (by unfold vp_in; decide) dX11_paste_30 ?_
              refine W.eq (g2 := F0 m 31 ls [.ref s2]) rfl ?_
              refine lv_astore (lv' := [(7, .ref s2), (6, .ref s3), (0, .ref h0), (1, .int 3), (2, .int p2), (3, .int 2), (4, .int p4), (5, .int p5)]) hx hb dX11_paste_31 hl (by decide) rfl (fun ls hl => ?_)
              refine lv_aload hx hb dX11_paste_33 (lv_at hl 1 rfl) ?_
              refine va_get (D := (dC, dI)) (ci := 6) (v := .int 0) (C := RX6) (T := TX6) (N := 4) hx hb hts (fun w h => List.mem_cons_of_mem _ (List.mem_append_right _ (List.mem_append_right _ (List.mem_append_right _ (List.mem_append_left _ h))))) hown hK hP 5 rfl rfl 1 (by decide) (hts (.fieldLink RX11 386 "SagMemory$Slot" "has" "Z") (wl_mem 4 rfl)) (fun _ h9 => h9) rfl dX11_paste_35 ?_
              refine lv_if_eq (tgt := 49) hx hb dX11_paste_38 (by decide) (fun cz35 => ?_) (fun cz35 => ?_)
              · skip
                refine lv_bipush (v := (-6)) hx hb dX11_paste_49 (by decide) ?_
                exact W.iret (v := (-6)) hx hb hr (fun t ht hW => ⟨(-6), rfl, Or.inr (Or.inr (Or.inr (Or.inr (⟨rfl, cz6, cz7, cz16, cz17⟩)))), ht⟩) (fun _ h => absurd h List.not_mem_nil) dX11_paste_51
              · skip
                exact absurd cz35 (by decide)
            · skip
              refine va_aldq hx hb hK hP 1 0 rfl rfl (by unfold vp_in; decide) dX11_paste_30 ?_
              refine W.eq (g2 := F0 m 31 ls [.ref s3]) rfl ?_
              refine lv_astore (lv' := [(7, .ref s3), (6, .ref s3), (0, .ref h0), (1, .int 3), (2, .int p2), (3, .int 3), (4, .int p4), (5, .int p5)]) hx hb dX11_paste_31 hl (by decide) rfl (fun ls hl => ?_)
              refine lv_aload hx hb dX11_paste_33 (lv_at hl 1 rfl) ?_
              refine va_get (D := (dC, dI)) (ci := 6) (v := .int 0) (C := RX6) (T := TX6) (N := 4) hx hb hts (fun w h => List.mem_cons_of_mem _ (List.mem_append_right _ (List.mem_append_right _ (List.mem_append_right _ (List.mem_append_left _ h))))) hown hK hP 5 rfl rfl 1 (by decide) (hts (.fieldLink RX11 386 "SagMemory$Slot" "has" "Z") (wl_mem 4 rfl)) (fun _ h9 => h9) rfl dX11_paste_35 ?_
              refine lv_if_eq (tgt := 49) hx hb dX11_paste_38 (by decide) (fun cz36 => ?_) (fun cz36 => ?_)
              · skip
                refine lv_bipush (v := (-6)) hx hb dX11_paste_49 (by decide) ?_
                exact W.iret (v := (-6)) hx hb hr (fun t ht hW => ⟨(-6), rfl, Or.inr (Or.inr (Or.inr (Or.inr (⟨rfl, cz6, cz7, cz16, cz17⟩)))), ht⟩) (fun _ h => absurd h List.not_mem_nil) dX11_paste_51
              · skip
                exact absurd cz36 (by decide)
        · skip
          exact absurd cz20 (by decide)
def wk_f_X6_begin : List Cond := .code yX6_begin cX6_begin 4 none :: ([.fieldLink RX6 15 "SagMemory$Slot" "has" "Z", .fieldLink RX6 19 "SagMemory$Slot" "width" "I", .fieldLink RX6 23 "SagMemory$Slot" "length" "I", .fieldLink RX6 9 "SagMemory$Slot" "numbers" "[J"] ++ (wsX60 ++ []))
theorem wkg_f_X6_begin : wk_f_X6_begin.all goodWord = true := by decide +kernel
set_option maxHeartbeats 4000000 in
set_option maxRecDepth 100000 in
theorem f_X6_begin (l : Launch) (dC : Nat → ClassId) (dI : Nat → Nat → Nat) (sz : Nat) (h0 : Nat) (b0 : Nat) (k0 : ClassId) (f0 : Nat → Int64) (p1 : Int32) (p2 : Int32) : Met l yX6_begin wk_f_X6_begin ({ frames := 0, cells := 0, slots := 0, locals := 0 }) (va_Pc [.ref h0, .int p1, .int p2] (fun U => U.heap.size = sz ∧ va_P (dC, dI) vwCl [(h0, .inr (6, [.ref b0, .int 0, .int 0, .int 0])), (b0, .inl (k0, 60, .inr (.inl f0)))] U.heap ∧ va_K (dC, dI) vwCl [(k0, .long)] U ∧ va_D (fun _ => True) [(h0, .inr (6, [.ref b0, .int 0, .int 0, .int 0])), (b0, .inl (k0, 60, .inr (.inl f0)))])) (va_Qv (fun _ : Unit => True) (fun (_ : Unit) (_ : State) => True) (va_A [(h0, .inr (6, [.ref b0, .int 0, .int 0, .int 0])), (b0, .inl (k0, 60, .inr (.inl f0)))] sz)) 0 0 (va_A [(h0, .inr (6, [.ref b0, .int 0, .int 0, .int 0])), (b0, .inl (k0, 60, .inr (.inl f0)))] sz) := by
  refine Met.ofW (cc := cX6_begin) (maxL := 4) (ret := none) (by decide) rfl ?_
  intro p e s m args below meth c s₁ B hml hv
  obtain ⟨rfl, hsz, hP, hK, hD0⟩ := hv
  have hx := B.exec
  have hb := B.bytes
  have hr := B.returns
  have hts := atoms_spec (ws := wk_f_X6_begin) B.pre
  have hown : s.vm.findClass RX6 = some m.cls := findClass_of_methodNamed B.named
  have hlocks := B.notSynchronized
  subst hsz
  have hD := hD0.self (sz := s.heap.size)
  generalize hAe : va_A [(h0, .inr (6, [.ref b0, .int 0, .int 0, .int 0])), (b0, .inl (k0, 60, .inr (.inl f0)))] s.heap.size = A at hD ⊢
  have hA : ∀ q : Nat, s.heap.size ≤ q → A q := fun q h => by rw [← hAe]; exact Or.inr h
  have hS : va_S A s.heap s.heap [] := va_S.rf
  have hP : va_P (dC, dI) vwCl [(h0, .inr (6, [.ref b0, .int 0, .int 0, .int 0])), (b0, .inl (k0, 60, .inr (.inl f0)))] s.heap := hP
  have hl := lv_entry ([.ref h0, .int p1, .int p2]) (n := 4) (Nat.le_of_ble_eq_true rfl)
  rw [lg_entry_eq]
  generalize (lg_sl ([.ref h0, .int p1, .int p2]) ++ List.replicate (4 - (lg_sl ([.ref h0, .int p1, .int p2])).length) Slot.unset).toArray = ls at hl ⊢
  have hl : lv_has ls 4 [(0, .ref h0), (1, .int p1), (2, .int p2)] := hl
  refine lv_aload_n hx hb dX6_begin_0 rfl (lv_at hl 0 rfl) ?_
  refine lv_iconst (v := 1) hx hb dX6_begin_1 (by decide) ?_
  refine va_put (D := (dC, dI)) (ci := 6) (v := .int 1) (ty := .boolean) (C := RX6) (T := TX6) (N := 4) hx hb hts (fun w h => List.mem_cons_of_mem _ (List.mem_append_right _ (List.mem_append_left _ h))) tyX6 tyX6_ok nmX6 hown hK hP hD hS 0 rfl rfl 1 (by decide) (hts (.fieldLink RX6 15 "SagMemory$Slot" "has" "Z") (wl_mem 0 rfl)) (fun _ h9 => h9) rfl (by decide +kernel) rfl rfl (Nat.le_of_ble_eq_true rfl) dX6_begin_2 (fun H locs hP hD hS => ?_)
  have hP : va_P (dC, dI) vwCl [(h0, .inr (6, [.ref b0, .int 1, .int 0, .int 0])), (b0, .inl (k0, 60, .inr (.inl f0)))] H := hP
  have hD : va_D A [(h0, .inr (6, [.ref b0, .int 1, .int 0, .int 0])), (b0, .inl (k0, 60, .inr (.inl f0)))] := hD
  refine lv_aload_n hx hb dX6_begin_5 rfl (lv_at hl 0 rfl) ?_
  refine lv_iload_n hx hb dX6_begin_6 rfl (lv_at hl 1 rfl) ?_
  refine va_put (D := (dC, dI)) (ci := 6) (v := .int p1) (ty := .int) (C := RX6) (T := TX6) (N := 4) hx hb hts (fun w h => List.mem_cons_of_mem _ (List.mem_append_right _ (List.mem_append_left _ h))) tyX6 tyX6_ok nmX6 hown hK hP hD hS 0 rfl rfl 2 (by decide) (hts (.fieldLink RX6 19 "SagMemory$Slot" "width" "I") (wl_mem 1 rfl)) (fun _ h9 => h9) rfl (by decide +kernel) rfl rfl (Nat.le_of_ble_eq_true rfl) dX6_begin_7 (fun H locs hP hD hS => ?_)
  have hP : va_P (dC, dI) vwCl [(h0, .inr (6, [.ref b0, .int 1, .int p1, .int 0])), (b0, .inl (k0, 60, .inr (.inl f0)))] H := hP
  have hD : va_D A [(h0, .inr (6, [.ref b0, .int 1, .int p1, .int 0])), (b0, .inl (k0, 60, .inr (.inl f0)))] := hD
  refine lv_aload_n hx hb dX6_begin_10 rfl (lv_at hl 0 rfl) ?_
  refine lv_iload_n hx hb dX6_begin_11 rfl (lv_at hl 2 rfl) ?_
  refine va_put (D := (dC, dI)) (ci := 6) (v := .int p2) (ty := .int) (C := RX6) (T := TX6) (N := 4) hx hb hts (fun w h => List.mem_cons_of_mem _ (List.mem_append_right _ (List.mem_append_left _ h))) tyX6 tyX6_ok nmX6 hown hK hP hD hS 0 rfl rfl 3 (by decide) (hts (.fieldLink RX6 23 "SagMemory$Slot" "length" "I") (wl_mem 2 rfl)) (fun _ h9 => h9) rfl (by decide +kernel) rfl rfl (Nat.le_of_ble_eq_true rfl) dX6_begin_12 (fun H locs hP hD hS => ?_)
  have hP : va_P (dC, dI) vwCl [(h0, .inr (6, [.ref b0, .int 1, .int p1, .int p2])), (b0, .inl (k0, 60, .inr (.inl f0)))] H := hP
  have hD : va_D A [(h0, .inr (6, [.ref b0, .int 1, .int p1, .int p2])), (b0, .inl (k0, 60, .inr (.inl f0)))] := hD
  refine lv_iconst (v := 0) hx hb dX6_begin_15 (by decide) ?_
  refine lv_istore_n (lv' := [(3, .int 0), (0, .ref h0), (1, .int p1), (2, .int p2)]) hx hb dX6_begin_16 rfl hl (by decide) rfl (fun ls hl => ?_)
  refine lv_iload_n hx hb dX6_begin_17 rfl (lv_at hl 0 rfl) ?_
  refine lv_bipush (v := 60) hx hb dX6_begin_18 (by decide) ?_
  refine lv_icmp_ge (tgt := 36) hx hb dX6_begin_20 (by decide) (fun cz1 => ?_) (fun cz1 => ?_)
  · skip
    exact absurd cz1 (by decide)
  · skip
    refine lv_aload_n hx hb dX6_begin_23 rfl (lv_at hl 1 rfl) ?_
    refine va_get (D := (dC, dI)) (ci := 6) (v := .ref b0) (C := RX6) (T := TX6) (N := 4) hx hb hts (fun w h => List.mem_cons_of_mem _ (List.mem_append_right _ (List.mem_append_left _ h))) hown hK hP 0 rfl rfl 0 (by decide) (hts (.fieldLink RX6 9 "SagMemory$Slot" "numbers" "[J") (wl_mem 3 rfl)) (fun _ h9 => h9) rfl dX6_begin_24 ?_
    refine lv_iload_n hx hb dX6_begin_27 rfl (lv_at hl 0 rfl) ?_
    refine lv_lconst (v := 0) hx hb dX6_begin_28 (by decide) ?_
    refine va_last hx hb hK hP hD hS 1 0 rfl rfl (by unfold vp_in; decide) dX6_begin_29 (fun H locs hP hD hS => ?_)
    obtain ⟨fz2, hP, hD⟩ : ∃ fz2 : Nat → Int64, va_P (dC, dI) vwCl [(h0, .inr (6, [.ref b0, .int 1, .int p1, .int p2])), (b0, .inl (k0, 60, .inr (.inl fz2)))] H ∧ va_D A [(h0, .inr (6, [.ref b0, .int 1, .int p1, .int p2])), (b0, .inl (k0, 60, .inr (.inl fz2)))] := ⟨_, hP, hD⟩
    refine lv_iinc (v := 1) (lv' := [(3, .int 1), (0, .ref h0), (1, .int p1), (2, .int p2)]) hx hb dX6_begin_30 hl (k := 0) rfl (by decide) (by decide) rfl (fun ls hl => ?_)
    refine lv_goto (tgt := 17) hx hb dX6_begin_33 (by decide) ?_
    refine lv_iload_n hx hb dX6_begin_17 rfl (lv_at hl 0 rfl) ?_
    refine lv_bipush (v := 60) hx hb dX6_begin_18 (by decide) ?_
    refine lv_icmp_ge (tgt := 36) hx hb dX6_begin_20 (by decide) (fun cz3 => ?_) (fun cz3 => ?_)
    · skip
      exact absurd cz3 (by decide)
    · skip
      refine lv_aload_n hx hb dX6_begin_23 rfl (lv_at hl 1 rfl) ?_
      refine va_get (D := (dC, dI)) (ci := 6) (v := .ref b0) (C := RX6) (T := TX6) (N := 4) hx hb hts (fun w h => List.mem_cons_of_mem _ (List.mem_append_right _ (List.mem_append_left _ h))) hown hK hP 0 rfl rfl 0 (by decide) (hts (.fieldLink RX6 9 "SagMemory$Slot" "numbers" "[J") (wl_mem 3 rfl)) (fun _ h9 => h9) rfl dX6_begin_24 ?_
      refine lv_iload_n hx hb dX6_begin_27 rfl (lv_at hl 0 rfl) ?_
      refine lv_lconst (v := 0) hx hb dX6_begin_28 (by decide) ?_
      refine va_last hx hb hK hP hD hS 1 0 rfl rfl (by unfold vp_in; decide) dX6_begin_29 (fun H locs hP hD hS => ?_)
      obtain ⟨fz4, hP, hD⟩ : ∃ fz4 : Nat → Int64, va_P (dC, dI) vwCl [(h0, .inr (6, [.ref b0, .int 1, .int p1, .int p2])), (b0, .inl (k0, 60, .inr (.inl fz4)))] H ∧ va_D A [(h0, .inr (6, [.ref b0, .int 1, .int p1, .int p2])), (b0, .inl (k0, 60, .inr (.inl fz4)))] := ⟨_, hP, hD⟩
      refine lv_iinc (v := 2) (lv' := [(3, .int 2), (0, .ref h0), (1, .int p1), (2, .int p2)]) hx hb dX6_begin_30 hl (k := 0) rfl (by decide) (by decide) rfl (fun ls hl => ?_)
      refine lv_goto (tgt := 17) hx hb dX6_begin_33 (by decide) ?_
      refine lv_iload_n hx hb dX6_begin_17 rfl (lv_at hl 0 rfl) ?_
      refine lv_bipush (v := 60) hx hb dX6_begin_18 (by decide) ?_
      refine lv_icmp_ge (tgt := 36) hx hb dX6_begin_20 (by decide) (fun cz5 => ?_) (fun cz5 => ?_)
      · skip
        exact absurd cz5 (by decide)
      · skip
        refine lv_aload_n hx hb dX6_begin_23 rfl (lv_at hl 1 rfl) ?_
        refine va_get (D := (dC, dI)) (ci := 6) (v := .ref b0) (C := RX6) (T := TX6) (N := 4) hx hb hts (fun w h => List.mem_cons_of_mem _ (List.mem_append_right _ (List.mem_append_left _ h))) hown hK hP 0 rfl rfl 0 (by decide) (hts (.fieldLink RX6 9 "SagMemory$Slot" "numbers" "[J") (wl_mem 3 rfl)) (fun _ h9 => h9) rfl dX6_begin_24 ?_
        refine lv_iload_n hx hb dX6_begin_27 rfl (lv_at hl 0 rfl) ?_
        refine lv_lconst (v := 0) hx hb dX6_begin_28 (by decide) ?_
        refine va_last hx hb hK hP hD hS 1 0 rfl rfl (by unfold vp_in; decide) dX6_begin_29 (fun H locs hP hD hS => ?_)
        obtain ⟨fz6, hP, hD⟩ : ∃ fz6 : Nat → Int64, va_P (dC, dI) vwCl [(h0, .inr (6, [.ref b0, .int 1, .int p1, .int p2])), (b0, .inl (k0, 60, .inr (.inl fz6)))] H ∧ va_D A [(h0, .inr (6, [.ref b0, .int 1, .int p1, .int p2])), (b0, .inl (k0, 60, .inr (.inl fz6)))] := ⟨_, hP, hD⟩
        refine lv_iinc (v := 3) (lv' := [(3, .int 3), (0, .ref h0), (1, .int p1), (2, .int p2)]) hx hb dX6_begin_30 hl (k := 0) rfl (by decide) (by decide) rfl (fun ls hl => ?_)
        refine lv_goto (tgt := 17) hx hb dX6_begin_33 (by decide) ?_
        refine lv_iload_n hx hb dX6_begin_17 rfl (lv_at hl 0 rfl) ?_
        refine lv_bipush (v := 60) hx hb dX6_begin_18 (by decide) ?_
        refine lv_icmp_ge (tgt := 36) hx hb dX6_begin_20 (by decide) (fun cz7 => ?_) (fun cz7 => ?_)
        · skip
          exact absurd cz7 (by decide)
        · skip
          refine lv_aload_n hx hb dX6_begin_23 rfl (lv_at hl 1 rfl) ?_
          refine va_get (D := (dC, dI)) (ci := 6) (v := .ref b0) (C := RX6) (T := TX6) (N := 4) hx hb hts (fun w h => List.mem_cons_of_mem _ (List.mem_append_right _ (List.mem_append_left _ h))) hown hK hP 0 rfl rfl 0 (by decide) (hts (.fieldLink RX6 9 "SagMemory$Slot" "numbers" "[J") (wl_mem 3 rfl)) (fun _ h9 => h9) rfl dX6_begin_24 ?_
          refine lv_iload_n hx hb dX6_begin_27 rfl (lv_at hl 0 rfl) ?_
          refine lv_lconst (v := 0) hx hb dX6_begin_28 (by decide) ?_
          refine va_last hx hb hK hP hD hS 1 0 rfl rfl (by unfold vp_in; decide) dX6_begin_29 (fun H locs hP hD hS => ?_)
          obtain ⟨fz8, hP, hD⟩ : ∃ fz8 : Nat → Int64, va_P (dC, dI) vwCl [(h0, .inr (6, [.ref b0, .int 1, .int p1, .int p2])), (b0, .inl (k0, 60, .inr (.inl fz8)))] H ∧ va_D A [(h0, .inr (6, [.ref b0, .int 1, .int p1, .int p2])), (b0, .inl (k0, 60, .inr (.inl fz8)))] := ⟨_, hP, hD⟩
          refine lv_iinc (v := 4) (lv' := [(3, .int 4), (0, .ref h0), (1, .int p1), (2, .int p2)]) hx hb dX6_begin_30 hl (k := 0) rfl (by decide) (by decide) rfl (fun ls hl => ?_)
          refine lv_goto (tgt := 17) hx hb dX6_begin_33 (by decide) ?_
          refine lv_iload_n hx hb dX6_begin_17 rfl (lv_at hl 0 rfl) ?_
          refine lv_bipush (v := 60) hx hb dX6_begin_18 (by decide) ?_
          refine lv_icmp_ge (tgt := 36) hx hb dX6_begin_20 (by decide) (fun cz9 => ?_) (fun cz9 => ?_)
          · skip
            exact absurd cz9 (by decide)
          · skip
            refine lv_aload_n hx hb dX6_begin_23 rfl (lv_at hl 1 rfl) ?_
            refine va_get (D := (dC, dI)) (ci := 6) (v := .ref b0) (C := RX6) (T := TX6) (N := 4) hx hb hts (fun w h => List.mem_cons_of_mem _ (List.mem_append_right _ (List.mem_append_left _ h))) hown hK hP 0 rfl rfl 0 (by decide) (hts (.fieldLink RX6 9 "SagMemory$Slot" "numbers" "[J") (wl_mem 3 rfl)) (fun _ h9 => h9) rfl dX6_begin_24 ?_
            refine lv_iload_n hx hb dX6_begin_27 rfl (lv_at hl 0 rfl) ?_
            refine lv_lconst (v := 0) hx hb dX6_begin_28 (by decide) ?_
            refine va_last hx hb hK hP hD hS 1 0 rfl rfl (by unfold vp_in; decide) dX6_begin_29 (fun H locs hP hD hS => ?_)
            obtain ⟨fz10, hP, hD⟩ : ∃ fz10 : Nat → Int64, va_P (dC, dI) vwCl [(h0, .inr (6, [.ref b0, .int 1, .int p1, .int p2])), (b0, .inl (k0, 60, .inr (.inl fz10)))] H ∧ va_D A [(h0, .inr (6, [.ref b0, .int 1, .int p1, .int p2])), (b0, .inl (k0, 60, .inr (.inl fz10)))] := ⟨_, hP, hD⟩
            refine lv_iinc (v := 5) (lv' := [(3, .int 5), (0, .ref h0), (1, .int p1), (2, .int p2)]) hx hb dX6_begin_30 hl (k := 0) rfl (by decide) (by decide) rfl (fun ls hl => ?_)
            refine lv_goto (tgt := 17) hx hb dX6_begin_33 (by decide) ?_
            refine lv_iload_n hx hb dX6_begin_17 rfl (lv_at hl 0 rfl) ?_
            refine lv_bipush (v := 60) hx hb dX6_begin_18 (by decide) ?_
            refine lv_icmp_ge (tgt := 36) hx hb dX6_begin_20 (by decide) (fun cz11 => ?_) (fun cz11 => ?_)
            · skip
              exact absurd cz11 (by decide)
            · skip
              refine lv_aload_n hx hb dX6_begin_23 rfl (lv_at hl 1 rfl) ?_
              refine va_get (D := (dC, dI)) (ci := 6) (v := .ref b0) (C := RX6) (T := TX6) (N := 4) hx hb hts (fun w h => List.mem_cons_of_mem _ (List.mem_append_right _ (List.mem_append_left _ h))) hown hK hP 0 rfl rfl 0 (by decide) (hts (.fieldLink RX6 9 "SagMemory$Slot" "numbers" "[J") (wl_mem 3 rfl)) (fun _ h9 => h9) rfl dX6_begin_24 ?_
              refine lv_iload_n hx hb dX6_begin_27 rfl (lv_at hl 0 rfl) ?_
              refine lv_lconst (v := 0) hx hb dX6_begin_28 (by decide) ?_
              refine va_last hx hb hK hP hD hS 1 0 rfl rfl (by unfold vp_in; decide) dX6_begin_29 (fun H locs hP hD hS => ?_)
              obtain ⟨fz12, hP, hD⟩ : ∃ fz12 : Nat → Int64, va_P (dC, dI) vwCl [(h0, .inr (6, [.ref b0, .int 1, .int p1, .int p2])), (b0, .inl (k0, 60, .inr (.inl fz12)))] H ∧ va_D A [(h0, .inr (6, [.ref b0, .int 1, .int p1, .int p2])), (b0, .inl (k0, 60, .inr (.inl fz12)))] := ⟨_, hP, hD⟩
              refine lv_iinc (v := 6) (lv' := [(3, .int 6), (0, .ref h0), (1, .int p1), (2, .int p2)]) hx hb dX6_begin_30 hl (k := 0) rfl (by decide) (by decide) rfl (fun ls hl => ?_)
              refine lv_goto (tgt := 17) hx hb dX6_begin_33 (by decide) ?_
              refine lv_iload_n hx hb dX6_begin_17 rfl (lv_at hl 0 rfl) ?_
              refine lv_bipush (v := 60) hx hb dX6_begin_18 (by decide) ?_
              refine lv_icmp_ge (tgt := 36) hx hb dX6_begin_20 (by decide) (fun cz13 => ?_) (fun cz13 => ?_)
              · skip
                exact absurd cz13 (by decide)
              · skip
                refine lv_aload_n hx hb dX6_begin_23 rfl (lv_at hl 1 rfl) ?_
                refine va_get (D := (dC, dI)) (ci := 6) (v := .ref b0) (C := RX6) (T := TX6) (N := 4) hx hb hts (fun w h => List.mem_cons_of_mem _ (List.mem_append_right _ (List.mem_append_left _ h))) hown hK hP 0 rfl rfl 0 (by decide) (hts (.fieldLink RX6 9 "SagMemory$Slot" "numbers" "[J") (wl_mem 3 rfl)) (fun _ h9 => h9) rfl dX6_begin_24 ?_
                refine lv_iload_n hx hb dX6_begin_27 rfl (lv_at hl 0 rfl) ?_
                refine lv_lconst (v := 0) hx hb dX6_begin_28 (by decide) ?_
                refine va_last hx hb hK hP hD hS 1 0 rfl rfl (by unfold vp_in; decide) dX6_begin_29 (fun H locs hP hD hS => ?_)
                obtain ⟨fz14, hP, hD⟩ : ∃ fz14 : Nat → Int64, va_P (dC, dI) vwCl [(h0, .inr (6, [.ref b0, .int 1, .int p1, .int p2])), (b0, .inl (k0, 60, .inr (.inl fz14)))] H ∧ va_D A [(h0, .inr (6, [.ref b0, .int 1, .int p1, .int p2])), (b0, .inl (k0, 60, .inr (.inl fz14)))] := ⟨_, hP, hD⟩
                refine lv_iinc (v := 7) (lv' := [(3, .int 7), (0, .ref h0), (1, .int p1), (2, .int p2)]) hx hb dX6_begin_30 hl (k := 0) rfl (by decide) (by decide) rfl (fun ls hl => ?_)
                refine lv_goto (tgt := 17) hx hb dX6_begin_33 (by decide) ?_
                refine lv_iload_n hx hb dX6_begin_17 rfl (lv_at hl 0 rfl) ?_
                refine lv_bipush (v := 60) hx hb dX6_begin_18 (by decide) ?_
                refine lv_icmp_ge (tgt := 36) hx hb dX6_begin_20 (by decide) (fun cz15 => ?_) (fun cz15 => ?_)
                · skip
                  exact absurd cz15 (by decide)
                · skip
                  refine lv_aload_n hx hb dX6_begin_23 rfl (lv_at hl 1 rfl) ?_
                  refine va_get (D := (dC, dI)) (ci := 6) (v := .ref b0) (C := RX6) (T := TX6) (N := 4) hx hb hts (fun w h => List.mem_cons_of_mem _ (List.mem_append_right _ (List.mem_append_left _ h))) hown hK hP 0 rfl rfl 0 (by decide) (hts (.fieldLink RX6 9 "SagMemory$Slot" "numbers" "[J") (wl_mem 3 rfl)) (fun _ h9 => h9) rfl dX6_begin_24 ?_
                  refine lv_iload_n hx hb dX6_begin_27 rfl (lv_at hl 0 rfl) ?_
                  refine lv_lconst (v := 0) hx hb dX6_begin_28 (by decide) ?_
                  refine va_last hx hb hK hP hD hS 1 0 rfl rfl (by unfold vp_in; decide) dX6_begin_29 (fun H locs hP hD hS => ?_)
                  obtain ⟨fz16, hP, hD⟩ : ∃ fz16 : Nat → Int64, va_P (dC, dI) vwCl [(h0, .inr (6, [.ref b0, .int 1, .int p1, .int p2])), (b0, .inl (k0, 60, .inr (.inl fz16)))] H ∧ va_D A [(h0, .inr (6, [.ref b0, .int 1, .int p1, .int p2])), (b0, .inl (k0, 60, .inr (.inl fz16)))] := ⟨_, hP, hD⟩
                  refine lv_iinc (v := 8) (lv' := [(3, .int 8), (0, .ref h0), (1, .int p1), (2, .int p2)]) hx hb dX6_begin_30 hl (k := 0) rfl (by decide) (by decide) rfl (fun ls hl => ?_)
                  refine lv_goto (tgt := 17) hx hb dX6_begin_33 (by decide) ?_
                  refine lv_iload_n hx hb dX6_begin_17 rfl (lv_at hl 0 rfl) ?_
                  refine lv_bipush (v := 60) hx hb dX6_begin_18 (by decide) ?_
                  refine lv_icmp_ge (tgt := 36) hx hb dX6_begin_20 (by decide) (fun cz17 => ?_) (fun cz17 => ?_)
                  · skip
                    exact absurd cz17 (by decide)
                  · skip
                    refine lv_aload_n hx hb dX6_begin_23 rfl (lv_at hl 1 rfl) ?_
                    refine va_get (D := (dC, dI)) (ci := 6) (v := .ref b0) (C := RX6) (T := TX6) (N := 4) hx hb hts (fun w h => List.mem_cons_of_mem _ (List.mem_append_right _ (List.mem_append_left _ h))) hown hK hP 0 rfl rfl 0 (by decide) (hts (.fieldLink RX6 9 "SagMemory$Slot" "numbers" "[J") (wl_mem 3 rfl)) (fun _ h9 => h9) rfl dX6_begin_24 ?_
                    refine lv_iload_n hx hb dX6_begin_27 rfl (lv_at hl 0 rfl) ?_
                    refine lv_lconst (v := 0) hx hb dX6_begin_28 (by decide) ?_
                    refine va_last hx hb hK hP hD hS 1 0 rfl rfl (by unfold vp_in; decide) dX6_begin_29 (fun H locs hP hD hS => ?_)
                    obtain ⟨fz18, hP, hD⟩ : ∃ fz18 : Nat → Int64, va_P (dC, dI) vwCl [(h0, .inr (6, [.ref b0, .int 1, .int p1, .int p2])), (b0, .inl (k0, 60, .inr (.inl fz18)))] H ∧ va_D A [(h0, .inr (6, [.ref b0, .int 1, .int p1, .int p2])), (b0, .inl (k0, 60, .inr (.inl fz18)))] := ⟨_, hP, hD⟩
                    refine lv_iinc (v := 9) (lv' := [(3, .int 9), (0, .ref h0), (1, .int p1), (2, .int p2)]) hx hb dX6_begin_30 hl (k := 0) rfl (by decide) (by decide) rfl (fun ls hl => ?_)
                    refine lv_goto (tgt := 17) hx hb dX6_begin_33 (by decide) ?_
                    refine lv_iload_n hx hb dX6_begin_17 rfl (lv_at hl 0 rfl) ?_
                    refine lv_bipush (v := 60) hx hb dX6_begin_18 (by decide) ?_
                    refine lv_icmp_ge (tgt := 36) hx hb dX6_begin_20 (by decide) (fun cz19 => ?_) (fun cz19 => ?_)
                    · skip
                      exact absurd cz19 (by decide)
                    · skip
                      refine lv_aload_n hx hb dX6_begin_23 rfl (lv_at hl 1 rfl) ?_
                      refine va_get (D := (dC, dI)) (ci := 6) (v := .ref b0) (C := RX6) (T := TX6) (N := 4) hx hb hts (fun w h => List.mem_cons_of_mem _ (List.mem_append_right _ (List.mem_append_left _ h))) hown hK hP 0 rfl rfl 0 (by decide) (hts (.fieldLink RX6 9 "SagMemory$Slot" "numbers" "[J") (wl_mem 3 rfl)) (fun _ h9 => h9) rfl dX6_begin_24 ?_
                      refine lv_iload_n hx hb dX6_begin_27 rfl (lv_at hl 0 rfl) ?_
                      refine lv_lconst (v := 0) hx hb dX6_begin_28 (by decide) ?_
                      refine va_last hx hb hK hP hD hS 1 0 rfl rfl (by unfold vp_in; decide) dX6_begin_29 (fun H locs hP hD hS => ?_)
                      obtain ⟨fz20, hP, hD⟩ : ∃ fz20 : Nat → Int64, va_P (dC, dI) vwCl [(h0, .inr (6, [.ref b0, .int 1, .int p1, .int p2])), (b0, .inl (k0, 60, .inr (.inl fz20)))] H ∧ va_D A [(h0, .inr (6, [.ref b0, .int 1, .int p1, .int p2])), (b0, .inl (k0, 60, .inr (.inl fz20)))] := ⟨_, hP, hD⟩
                      refine lv_iinc (v := 10) (lv' := [(3, .int 10), (0, .ref h0), (1, .int p1), (2, .int p2)]) hx hb dX6_begin_30 hl (k := 0) rfl (by decide) (by decide) rfl (fun ls hl => ?_)
                      refine lv_goto (tgt := 17) hx hb dX6_begin_33 (by decide) ?_
                      refine lv_iload_n hx hb dX6_begin_17 rfl (lv_at hl 0 rfl) ?_
                      refine lv_bipush (v := 60) hx hb dX6_begin_18 (by decide) ?_
                      refine lv_icmp_ge (tgt := 36) hx hb dX6_begin_20 (by decide) (fun cz21 => ?_) (fun cz21 => ?_)
                      · skip
                        exact absurd cz21 (by decide)
                      · skip
                        refine lv_aload_n hx hb dX6_begin_23 rfl (lv_at hl 1 rfl) ?_
                        refine va_get (D := (dC, dI)) (ci := 6) (v := .ref b0) (C := RX6) (T := TX6) (N := 4) hx hb hts (fun w h => List.mem_cons_of_mem _ (List.mem_append_right _ (List.mem_append_left _ h))) hown hK hP 0 rfl rfl 0 (by decide) (hts (.fieldLink RX6 9 "SagMemory$Slot" "numbers" "[J") (wl_mem 3 rfl)) (fun _ h9 => h9) rfl dX6_begin_24 ?_
                        refine lv_iload_n hx hb dX6_begin_27 rfl (lv_at hl 0 rfl) ?_
                        refine lv_lconst (v := 0) hx hb dX6_begin_28 (by decide) ?_
                        refine va_last hx hb hK hP hD hS 1 0 rfl rfl (by unfold vp_in; decide) dX6_begin_29 (fun H locs hP hD hS => ?_)
                        obtain ⟨fz22, hP, hD⟩ : ∃ fz22 : Nat → Int64, va_P (dC, dI) vwCl [(h0, .inr (6, [.ref b0, .int 1, .int p1, .int p2])), (b0, .inl (k0, 60, .inr (.inl fz22)))] H ∧ va_D A [(h0, .inr (6, [.ref b0, .int 1, .int p1, .int p2])), (b0, .inl (k0, 60, .inr (.inl fz22)))] := ⟨_, hP, hD⟩
                        refine lv_iinc (v := 11) (lv' := [(3, .int 11), (0, .ref h0), (1, .int p1), (2, .int p2)]) hx hb dX6_begin_30 hl (k := 0) rfl (by decide) (by decide) rfl (fun ls hl => ?_)
                        refine lv_goto (tgt := 17) hx hb dX6_begin_33 (by decide) ?_
                        refine lv_iload_n hx hb dX6_begin_17 rfl (lv_at hl 0 rfl) ?_
                        refine lv_bipush (v := 60) hx hb dX6_begin_18 (by decide) ?_
                        refine lv_icmp_ge (tgt := 36) hx hb dX6_begin_20 (by decide) (fun cz23 => ?_) (fun cz23 => ?_)
                        · skip
                          exact absurd cz23 (by decide)
                        · skip
                          refine lv_aload_n hx hb dX6_begin_23 rfl (lv_at hl 1 rfl) ?_
                          refine va_get (D := (dC, dI)) (ci := 6) (v := .ref b0) (C := RX6) (T := TX6) (N := 4) hx hb hts (fun w h => List.mem_cons_of_mem _ (List.mem_append_right _ (List.mem_append_left _ h))) hown hK hP 0 rfl rfl 0 (by decide) (hts (.fieldLink RX6 9 "SagMemory$Slot" "numbers" "[J") (wl_mem 3 rfl)) (fun _ h9 => h9) rfl dX6_begin_24 ?_
                          refine lv_iload_n hx hb dX6_begin_27 rfl (lv_at hl 0 rfl) ?_
                          refine lv_lconst (v := 0) hx hb dX6_begin_28 (by decide) ?_
                          refine va_last hx hb hK hP hD hS 1 0 rfl rfl (by unfold vp_in; decide) dX6_begin_29 (fun H locs hP hD hS => ?_)
                          obtain ⟨fz24, hP, hD⟩ : ∃ fz24 : Nat → Int64, va_P (dC, dI) vwCl [(h0, .inr (6, [.ref b0, .int 1, .int p1, .int p2])), (b0, .inl (k0, 60, .inr (.inl fz24)))] H ∧ va_D A [(h0, .inr (6, [.ref b0, .int 1, .int p1, .int p2])), (b0, .inl (k0, 60, .inr (.inl fz24)))] := ⟨_, hP, hD⟩
                          refine lv_iinc (v := 12) (lv' := [(3, .int 12), (0, .ref h0), (1, .int p1), (2, .int p2)]) hx hb dX6_begin_30 hl (k := 0) rfl (by decide) (by decide) rfl (fun ls hl => ?_)
                          refine lv_goto (tgt := 17) hx hb dX6_begin_33 (by decide) ?_
                          refine lv_iload_n hx hb dX6_begin_17 rfl (lv_at hl 0 rfl) ?_
                          refine lv_bipush (v := 60) hx hb dX6_begin_18 (by decide) ?_
                          refine lv_icmp_ge (tgt := 36) hx hb dX6_begin_20 (by decide) (fun cz25 => ?_) (fun cz25 => ?_)
                          · skip
                            exact absurd cz25 (by decide)
                          · skip
                            refine lv_aload_n hx hb dX6_begin_23 rfl (lv_at hl 1 rfl) ?_
                            refine va_get (D := (dC, dI)) (ci := 6) (v := .ref b0) (C := RX6) (T := TX6) (N := 4) hx hb hts (fun w h => List.mem_cons_of_mem _ (List.mem_append_right _ (List.mem_append_left _ h))) hown hK hP 0 rfl rfl 0 (by decide) (hts (.fieldLink RX6 9 "SagMemory$Slot" "numbers" "[J") (wl_mem 3 rfl)) (fun _ h9 => h9) rfl dX6_begin_24 ?_
                            refine lv_iload_n hx hb dX6_begin_27 rfl (lv_at hl 0 rfl) ?_
                            refine lv_lconst (v := 0) hx hb dX6_begin_28 (by decide) ?_
                            refine va_last hx hb hK hP hD hS 1 0 rfl rfl (by unfold vp_in; decide) dX6_begin_29 (fun H locs hP hD hS => ?_)
                            obtain ⟨fz26, hP, hD⟩ : ∃ fz26 : Nat → Int64, va_P (dC, dI) vwCl [(h0, .inr (6, [.ref b0, .int 1, .int p1, .int p2])), (b0, .inl (k0, 60, .inr (.inl fz26)))] H ∧ va_D A [(h0, .inr (6, [.ref b0, .int 1, .int p1, .int p2])), (b0, .inl (k0, 60, .inr (.inl fz26)))] := ⟨_, hP, hD⟩
                            refine lv_iinc (v := 13) (lv' := [(3, .int 13), (0, .ref h0), (1, .int p1), (2, .int p2)]) hx hb dX6_begin_30 hl (k := 0) rfl (by decide) (by decide) rfl (fun ls hl => ?_)
                            refine lv_goto (tgt := 17) hx hb dX6_begin_33 (by decide) ?_
                            refine lv_iload_n hx hb dX6_begin_17 rfl (lv_at hl 0 rfl) ?_
                            refine lv_bipush (v := 60) hx hb dX6_begin_18 (by decide) ?_
                            refine lv_icmp_ge (tgt := 36) hx hb dX6_begin_20 (by decide) (fun cz27 => ?_) (fun cz27 => ?_)
                            · skip
                              exact absurd cz27 (by decide)
                            · skip
                              refine lv_aload_n hx hb dX6_begin_23 rfl (lv_at hl 1 rfl) ?_
                              refine va_get (D := (dC, dI)) (ci := 6) (v := .ref b0) (C := RX6) (T := TX6) (N := 4) hx hb hts (fun w h => List.mem_cons_of_mem _ (List.mem_append_right _ (List.mem_append_left _ h))) hown hK hP 0 rfl rfl 0 (by decide) (hts (.fieldLink RX6 9 "SagMemory$Slot" "numbers" "[J") (wl_mem 3 rfl)) (fun _ h9 => h9) rfl dX6_begin_24 ?_
                              refine lv_iload_n hx hb dX6_begin_27 rfl (lv_at hl 0 rfl) ?_
                              refine lv_lconst (v := 0) hx hb dX6_begin_28 (by decide) ?_
                              refine va_last hx hb hK hP hD hS 1 0 rfl rfl (by unfold vp_in; decide) dX6_begin_29 (fun H locs hP hD hS => ?_)
                              obtain ⟨fz28, hP, hD⟩ : ∃ fz28 : Nat → Int64, va_P (dC, dI) vwCl [(h0, .inr (6, [.ref b0, .int 1, .int p1, .int p2])), (b0, .inl (k0, 60, .inr (.inl fz28)))] H ∧ va_D A [(h0, .inr (6, [.ref b0, .int 1, .int p1, .int p2])), (b0, .inl (k0, 60, .inr (.inl fz28)))] := ⟨_, hP, hD⟩
                              refine lv_iinc (v := 14) (lv' := [(3, .int 14), (0, .ref h0), (1, .int p1), (2, .int p2)]) hx hb dX6_begin_30 hl (k := 0) rfl (by decide) (by decide) rfl (fun ls hl => ?_)
                              refine lv_goto (tgt := 17) hx hb dX6_begin_33 (by decide) ?_
                              refine lv_iload_n hx hb dX6_begin_17 rfl (lv_at hl 0 rfl) ?_
                              refine lv_bipush (v := 60) hx hb dX6_begin_18 (by decide) ?_
                              refine lv_icmp_ge (tgt := 36) hx hb dX6_begin_20 (by decide) (fun cz29 => ?_) (fun cz29 => ?_)
                              · skip
                                exact absurd cz29 (by decide)
                              · skip
                                refine lv_aload_n hx hb dX6_begin_23 rfl (lv_at hl 1 rfl) ?_
                                refine va_get (D := (dC, dI)) (ci := 6) (v := .ref b0) (C := RX6) (T := TX6) (N := 4) hx hb hts (fun w h => List.mem_cons_of_mem _ (List.mem_append_right _ (List.mem_append_left _ h))) hown hK hP 0 rfl rfl 0 (by decide) (hts (.fieldLink RX6 9 "SagMemory$Slot" "numbers" "[J") (wl_mem 3 rfl)) (fun _ h9 => h9) rfl dX6_begin_24 ?_
                                refine lv_iload_n hx hb dX6_begin_27 rfl (lv_at hl 0 rfl) ?_
                                refine lv_lconst (v := 0) hx hb dX6_begin_28 (by decide) ?_
                                refine va_last hx hb hK hP hD hS 1 0 rfl rfl (by unfold vp_in; decide) dX6_begin_29 (fun H locs hP hD hS => ?_)
                                obtain ⟨fz30, hP, hD⟩ : ∃ fz30 : Nat → Int64, va_P (dC, dI) vwCl [(h0, .inr (6, [.ref b0, .int 1, .int p1, .int p2])), (b0, .inl (k0, 60, .inr (.inl fz30)))] H ∧ va_D A [(h0, .inr (6, [.ref b0, .int 1, .int p1, .int p2])), (b0, .inl (k0, 60, .inr (.inl fz30)))] := ⟨_, hP, hD⟩
                                refine lv_iinc (v := 15) (lv' := [(3, .int 15), (0, .ref h0), (1, .int p1), (2, .int p2)]) hx hb dX6_begin_30 hl (k := 0) rfl (by decide) (by decide) rfl (fun ls hl => ?_)
                                refine lv_goto (tgt := 17) hx hb dX6_begin_33 (by decide) ?_
                                refine lv_iload_n hx hb dX6_begin_17 rfl (lv_at hl 0 rfl) ?_
                                refine lv_bipush (v := 60) hx hb dX6_begin_18 (by decide) ?_
                                refine lv_icmp_ge (tgt := 36) hx hb dX6_begin_20 (by decide) (fun cz31 => ?_) (fun cz31 => ?_)
                                · skip
                                  exact absurd cz31 (by decide)
                                · skip
                                  refine lv_aload_n hx hb dX6_begin_23 rfl (lv_at hl 1 rfl) ?_
                                  refine va_get (D := (dC, dI)) (ci := 6) (v := .ref b0) (C := RX6) (T := TX6) (N := 4) hx hb hts (fun w h => List.mem_cons_of_mem _ (List.mem_append_right _ (List.mem_append_left _ h))) hown hK hP 0 rfl rfl 0 (by decide) (hts (.fieldLink RX6 9 "SagMemory$Slot" "numbers" "[J") (wl_mem 3 rfl)) (fun _ h9 => h9) rfl dX6_begin_24 ?_
                                  refine lv_iload_n hx hb dX6_begin_27 rfl (lv_at hl 0 rfl) ?_
                                  refine lv_lconst (v := 0) hx hb dX6_begin_28 (by decide) ?_
                                  refine va_last hx hb hK hP hD hS 1 0 rfl rfl (by unfold vp_in; decide) dX6_begin_29 (fun H locs hP hD hS => ?_)
                                  obtain ⟨fz32, hP, hD⟩ : ∃ fz32 : Nat → Int64, va_P (dC, dI) vwCl [(h0, .inr (6, [.ref b0, .int 1, .int p1, .int p2])), (b0, .inl (k0, 60, .inr (.inl fz32)))] H ∧ va_D A [(h0, .inr (6, [.ref b0, .int 1, .int p1, .int p2])), (b0, .inl (k0, 60, .inr (.inl fz32)))] := ⟨_, hP, hD⟩
                                  refine lv_iinc (v := 16) (lv' := [(3, .int 16), (0, .ref h0), (1, .int p1), (2, .int p2)]) hx hb dX6_begin_30 hl (k := 0) rfl (by decide) (by decide) rfl (fun ls hl => ?_)
                                  refine lv_goto (tgt := 17) hx hb dX6_begin_33 (by decide) ?_
                                  refine lv_iload_n hx hb dX6_begin_17 rfl (lv_at hl 0 rfl) ?_
                                  refine lv_bipush (v := 60) hx hb dX6_begin_18 (by decide) ?_
                                  refine lv_icmp_ge (tgt := 36) hx hb dX6_begin_20 (by decide) (fun cz33 => ?_) (fun cz33 => ?_)
                                  · skip
                                    exact absurd cz33 (by decide)
                                  · skip
                                    refine lv_aload_n hx hb dX6_begin_23 rfl (lv_at hl 1 rfl) ?_
                                    refine va_get (D := (dC, dI)) (ci := 6) (v := .ref b0) (C := RX6) (T := TX6) (N := 4) hx hb hts (fun w h => List.mem_cons_of_mem _ (List.mem_append_right _ (List.mem_append_left _ h))) hown hK hP 0 rfl rfl 0 (by decide) (hts (.fieldLink RX6 9 "SagMemory$Slot" "numbers" "[J") (wl_mem 3 rfl)) (fun _ h9 => h9) rfl dX6_begin_24 ?_
                                    refine lv_iload_n hx hb dX6_begin_27 rfl (lv_at hl 0 rfl) ?_
                                    refine lv_lconst (v := 0) hx hb dX6_begin_28 (by decide) ?_
                                    refine va_last hx hb hK hP hD hS 1 0 rfl rfl (by unfold vp_in; decide) dX6_begin_29 (fun H locs hP hD hS => ?_)
                                    obtain ⟨fz34, hP, hD⟩ : ∃ fz34 : Nat → Int64, va_P (dC, dI) vwCl [(h0, .inr (6, [.ref b0, .int 1, .int p1, .int p2])), (b0, .inl (k0, 60, .inr (.inl fz34)))] H ∧ va_D A [(h0, .inr (6, [.ref b0, .int 1, .int p1, .int p2])), (b0, .inl (k0, 60, .inr (.inl fz34)))] := ⟨_, hP, hD⟩
                                    refine lv_iinc (v := 17) (lv' := [(3, .int 17), (0, .ref h0), (1, .int p1), (2, .int p2)]) hx hb dX6_begin_30 hl (k := 0) rfl (by decide) (by decide) rfl (fun ls hl => ?_)
                                    refine lv_goto (tgt := 17) hx hb dX6_begin_33 (by decide) ?_
                                    refine lv_iload_n hx hb dX6_begin_17 rfl (lv_at hl 0 rfl) ?_
                                    refine lv_bipush (v := 60) hx hb dX6_begin_18 (by decide) ?_
                                    refine lv_icmp_ge (tgt := 36) hx hb dX6_begin_20 (by decide) (fun cz35 => ?_) (fun cz35 => ?_)
                                    · skip
                                      exact absurd cz35 (by decide)
                                    · skip
                                      refine lv_aload_n hx hb dX6_begin_23 rfl (lv_at hl 1 rfl) ?_
                                      refine va_get (D := (dC, dI)) (ci := 6) (v := .ref b0) (C := RX6) (T := TX6) (N := 4) hx hb hts (fun w h => List.mem_cons_of_mem _ (List.mem_append_right _ (List.mem_append_left _ h))) hown hK hP 0 rfl rfl 0 (by decide) (hts (.fieldLink RX6 9 "SagMemory$Slot" "numbers" "[J") (wl_mem 3 rfl)) (fun _ h9 => h9) rfl dX6_begin_24 ?_
                                      refine lv_iload_n hx hb dX6_begin_27 rfl (lv_at hl 0 rfl) ?_
                                      refine lv_lconst (v := 0) hx hb dX6_begin_28 (by decide) ?_
                                      refine va_last hx hb hK hP hD hS 1 0 rfl rfl (by unfold vp_in; decide) dX6_begin_29 (fun H locs hP hD hS => ?_)
                                      obtain ⟨fz36, hP, hD⟩ : ∃ fz36 : Nat → Int64, va_P (dC, dI) vwCl [(h0, .inr (6, [.ref b0, .int 1, .int p1, .int p2])), (b0, .inl (k0, 60, .inr (.inl fz36)))] H ∧ va_D A [(h0, .inr (6, [.ref b0, .int 1, .int p1, .int p2])), (b0, .inl (k0, 60, .inr (.inl fz36)))] := ⟨_, hP, hD⟩
                                      refine lv_iinc (v := 18) (lv' := [(3, .int 18), (0, .ref h0), (1, .int p1), (2, .int p2)]) hx hb dX6_begin_30 hl (k := 0) rfl (by decide) (by decide) rfl (fun ls hl => ?_)
                                      refine lv_goto (tgt := 17) hx hb dX6_begin_33 (by decide) ?_
                                      refine lv_iload_n hx hb dX6_begin_17 rfl (lv_at hl 0 rfl) ?_
                                      refine lv_bipush (v := 60) hx hb dX6_begin_18 (by decide) ?_
                                      refine lv_icmp_ge (tgt := 36) hx hb dX6_begin_20 (by decide) (fun cz37 => ?_) (fun cz37 => ?_)
                                      · skip
                                        exact absurd cz37 (by decide)
                                      · skip
                                        refine lv_aload_n hx hb dX6_begin_23 rfl (lv_at hl 1 rfl) ?_
                                        refine va_get (D := (dC, dI)) (ci := 6) (v := .ref b0) (C := RX6) (T := TX6) (N := 4) hx hb hts (fun w h => List.mem_cons_of_mem _ (List.mem_append_right _ (List.mem_append_left _ h))) hown hK hP 0 rfl rfl 0 (by decide) (hts (.fieldLink RX6 9 "SagMemory$Slot" "numbers" "[J") (wl_mem 3 rfl)) (fun _ h9 => h9) rfl dX6_begin_24 ?_
                                        refine lv_iload_n hx hb dX6_begin_27 rfl (lv_at hl 0 rfl) ?_
                                        refine lv_lconst (v := 0) hx hb dX6_begin_28 (by decide) ?_
                                        refine va_last hx hb hK hP hD hS 1 0 rfl rfl (by unfold vp_in; decide) dX6_begin_29 (fun H locs hP hD hS => ?_)
                                        obtain ⟨fz38, hP, hD⟩ : ∃ fz38 : Nat → Int64, va_P (dC, dI) vwCl [(h0, .inr (6, [.ref b0, .int 1, .int p1, .int p2])), (b0, .inl (k0, 60, .inr (.inl fz38)))] H ∧ va_D A [(h0, .inr (6, [.ref b0, .int 1, .int p1, .int p2])), (b0, .inl (k0, 60, .inr (.inl fz38)))] := ⟨_, hP, hD⟩
                                        refine lv_iinc (v := 19) (lv' := [(3, .int 19), (0, .ref h0), (1, .int p1), (2, .int p2)]) hx hb dX6_begin_30 hl (k := 0) rfl (by decide) (by decide) rfl (fun ls hl => ?_)
                                        refine lv_goto (tgt := 17) hx hb dX6_begin_33 (by decide) ?_
                                        refine lv_iload_n hx hb dX6_begin_17 rfl (lv_at hl 0 rfl) ?_
                                        refine lv_bipush (v := 60) hx hb dX6_begin_18 (by decide) ?_
                                        refine lv_icmp_ge (tgt := 36) hx hb dX6_begin_20 (by decide) (fun cz39 => ?_) (fun cz39 => ?_)
                                        · skip
                                          exact absurd cz39 (by decide)
                                        · skip
                                          refine lv_aload_n hx hb dX6_begin_23 rfl (lv_at hl 1 rfl) ?_
                                          refine va_get (D := (dC, dI)) (ci := 6) (v := .ref b0) (C := RX6) (T := TX6) (N := 4) hx hb hts (fun w h => List.mem_cons_of_mem _ (List.mem_append_right _ (List.mem_append_left _ h))) hown hK hP 0 rfl rfl 0 (by decide) (hts (.fieldLink RX6 9 "SagMemory$Slot" "numbers" "[J") (wl_mem 3 rfl)) (fun _ h9 => h9) rfl dX6_begin_24 ?_
                                          refine lv_iload_n hx hb dX6_begin_27 rfl (lv_at hl 0 rfl) ?_
                                          refine lv_lconst (v := 0) hx hb dX6_begin_28 (by decide) ?_
                                          refine va_last hx hb hK hP hD hS 1 0 rfl rfl (by unfold vp_in; decide) dX6_begin_29 (fun H locs hP hD hS => ?_)
                                          obtain ⟨fz40, hP, hD⟩ : ∃ fz40 : Nat → Int64, va_P (dC, dI) vwCl [(h0, .inr (6, [.ref b0, .int 1, .int p1, .int p2])), (b0, .inl (k0, 60, .inr (.inl fz40)))] H ∧ va_D A [(h0, .inr (6, [.ref b0, .int 1, .int p1, .int p2])), (b0, .inl (k0, 60, .inr (.inl fz40)))] := ⟨_, hP, hD⟩
                                          refine lv_iinc (v := 20) (lv' := [(3, .int 20), (0, .ref h0), (1, .int p1), (2, .int p2)]) hx hb dX6_begin_30 hl (k := 0) rfl (by decide) (by decide) rfl (fun ls hl => ?_)
                                          refine lv_goto (tgt := 17) hx hb dX6_begin_33 (by decide) ?_
                                          refine lv_iload_n hx hb dX6_begin_17 rfl (lv_at hl 0 rfl) ?_
                                          refine lv_bipush (v := 60) hx hb dX6_begin_18 (by decide) ?_
                                          refine lv_icmp_ge (tgt := 36) hx hb dX6_begin_20 (by decide) (fun cz41 => ?_) (fun cz41 => ?_)
                                          · skip
                                            exact absurd cz41 (by decide)
                                          · skip
                                            refine lv_aload_n hx hb dX6_begin_23 rfl (lv_at hl 1 rfl) ?_
                                            refine va_get (D := (dC, dI)) (ci := 6) (v := .ref b0) (C := RX6) (T := TX6) (N := 4) hx hb hts (fun w h => List.mem_cons_of_mem _ (List.mem_append_right _ (List.mem_append_left _ h))) hown hK hP 0 rfl rfl 0 (by decide) (hts (.fieldLink RX6 9 "SagMemory$Slot" "numbers" "[J") (wl_mem 3 rfl)) (fun _ h9 => h9) rfl dX6_begin_24 ?_
                                            refine lv_iload_n hx hb dX6_begin_27 rfl (lv_at hl 0 rfl) ?_
                                            refine lv_lconst (v := 0) hx hb dX6_begin_28 (by decide) ?_
                                            refine va_last hx hb hK hP hD hS 1 0 rfl rfl (by unfold vp_in; decide) dX6_begin_29 (fun H locs hP hD hS => ?_)
                                            obtain ⟨fz42, hP, hD⟩ : ∃ fz42 : Nat → Int64, va_P (dC, dI) vwCl [(h0, .inr (6, [.ref b0, .int 1, .int p1, .int p2])), (b0, .inl (k0, 60, .inr (.inl fz42)))] H ∧ va_D A [(h0, .inr (6, [.ref b0, .int 1, .int p1, .int p2])), (b0, .inl (k0, 60, .inr (.inl fz42)))] := ⟨_, hP, hD⟩
                                            refine lv_iinc (v := 21) (lv' := [(3, .int 21), (0, .ref h0), (1, .int p1), (2, .int p2)]) hx hb dX6_begin_30 hl (k := 0) rfl (by decide) (by decide) rfl (fun ls hl => ?_)
                                            refine lv_goto (tgt := 17) hx hb dX6_begin_33 (by decide) ?_
                                            refine lv_iload_n hx hb dX6_begin_17 rfl (lv_at hl 0 rfl) ?_
                                            refine lv_bipush (v := 60) hx hb dX6_begin_18 (by decide) ?_
                                            refine lv_icmp_ge (tgt := 36) hx hb dX6_begin_20 (by decide) (fun cz43 => ?_) (fun cz43 => ?_)
                                            · skip
                                              exact absurd cz43 (by decide)
                                            · skip
                                              refine lv_aload_n hx hb dX6_begin_23 rfl (lv_at hl 1 rfl) ?_
                                              refine va_get (D := (dC, dI)) (ci := 6) (v := .ref b0) (C := RX6) (T := TX6) (N := 4) hx hb hts (fun w h => List.mem_cons_of_mem _ (List.mem_append_right _ (List.mem_append_left _ h))) hown hK hP 0 rfl rfl 0 (by decide) (hts (.fieldLink RX6 9 "SagMemory$Slot" "numbers" "[J") (wl_mem 3 rfl)) (fun _ h9 => h9) rfl dX6_begin_24 ?_
                                              refine lv_iload_n hx hb dX6_begin_27 rfl (lv_at hl 0 rfl) ?_
                                              refine lv_lconst (v := 0) hx hb dX6_begin_28 (by decide) ?_
                                              refine va_last hx hb hK hP hD hS 1 0 rfl rfl (by unfold vp_in; decide) dX6_begin_29 (fun H locs hP hD hS => ?_)
                                              obtain ⟨fz44, hP, hD⟩ : ∃ fz44 : Nat → Int64, va_P (dC, dI) vwCl [(h0, .inr (6, [.ref b0, .int 1, .int p1, .int p2])), (b0, .inl (k0, 60, .inr (.inl fz44)))] H ∧ va_D A [(h0, .inr (6, [.ref b0, .int 1, .int p1, .int p2])), (b0, .inl (k0, 60, .inr (.inl fz44)))] := ⟨_, hP, hD⟩
                                              refine lv_iinc (v := 22) (lv' := [(3, .int 22), (0, .ref h0), (1, .int p1), (2, .int p2)]) hx hb dX6_begin_30 hl (k := 0) rfl (by decide) (by decide) rfl (fun ls hl => ?_)
                                              refine lv_goto (tgt := 17) hx hb dX6_begin_33 (by decide) ?_
                                              refine lv_iload_n hx hb dX6_begin_17 rfl (lv_at hl 0 rfl) ?_
                                              refine lv_bipush (v := 60) hx hb dX6_begin_18 (by decide) ?_
                                              refine lv_icmp_ge (tgt := 36) hx hb dX6_begin_20 (by decide) (fun cz45 => ?_) (fun cz45 => ?_)
                                              · skip
                                                exact absurd cz45 (by decide)
                                              · skip
                                                refine lv_aload_n hx hb dX6_begin_23 rfl (lv_at hl 1 rfl) ?_
                                                refine va_get (D := (dC, dI)) (ci := 6) (v := .ref b0) (C := RX6) (T := TX6) (N := 4) hx hb hts (fun w h => List.mem_cons_of_mem _ (List.mem_append_right _ (List.mem_append_left _ h))) hown hK hP 0 rfl rfl 0 (by decide) (hts (.fieldLink RX6 9 "SagMemory$Slot" "numbers" "[J") (wl_mem 3 rfl)) (fun _ h9 => h9) rfl dX6_begin_24 ?_
                                                refine lv_iload_n hx hb dX6_begin_27 rfl (lv_at hl 0 rfl) ?_
                                                refine lv_lconst (v := 0) hx hb dX6_begin_28 (by decide) ?_
                                                refine va_last hx hb hK hP hD hS 1 0 rfl rfl (by unfold vp_in; decide) dX6_begin_29 (fun H locs hP hD hS => ?_)
                                                obtain ⟨fz46, hP, hD⟩ : ∃ fz46 : Nat → Int64, va_P (dC, dI) vwCl [(h0, .inr (6, [.ref b0, .int 1, .int p1, .int p2])), (b0, .inl (k0, 60, .inr (.inl fz46)))] H ∧ va_D A [(h0, .inr (6, [.ref b0, .int 1, .int p1, .int p2])), (b0, .inl (k0, 60, .inr (.inl fz46)))] := ⟨_, hP, hD⟩
                                                refine lv_iinc (v := 23) (lv' := [(3, .int 23), (0, .ref h0), (1, .int p1), (2, .int p2)]) hx hb dX6_begin_30 hl (k := 0) rfl (by decide) (by decide) rfl (fun ls hl => ?_)
                                                refine lv_goto (tgt := 17) hx hb dX6_begin_33 (by decide) ?_
                                                refine lv_iload_n hx hb dX6_begin_17 rfl (lv_at hl 0 rfl) ?_
                                                refine lv_bipush (v := 60) hx hb dX6_begin_18 (by decide) ?_
                                                refine lv_icmp_ge (tgt := 36) hx hb dX6_begin_20 (by decide) (fun cz47 => ?_) (fun cz47 => ?_)
                                                · skip
                                                  exact absurd cz47 (by decide)
                                                · skip
                                                  refine lv_aload_n hx hb dX6_begin_23 rfl (lv_at hl 1 rfl) ?_
                                                  refine va_get (D := (dC, dI)) (ci := 6) (v := .ref b0) (C := RX6) (T := TX6) (N := 4) hx hb hts (fun w h => List.mem_cons_of_mem _ (List.mem_append_right _ (List.mem_append_left _ h))) hown hK hP 0 rfl rfl 0 (by decide) (hts (.fieldLink RX6 9 "SagMemory$Slot" "numbers" "[J") (wl_mem 3 rfl)) (fun _ h9 => h9) rfl dX6_begin_24 ?_
                                                  refine lv_iload_n hx hb dX6_begin_27 rfl (lv_at hl 0 rfl) ?_
                                                  refine lv_lconst (v := 0) hx hb dX6_begin_28 (by decide) ?_
                                                  refine va_last hx hb hK hP hD hS 1 0 rfl rfl (by unfold vp_in; decide) dX6_begin_29 (fun H locs hP hD hS => ?_)
                                                  obtain ⟨fz48, hP, hD⟩ : ∃ fz48 : Nat → Int64, va_P (dC, dI) vwCl [(h0, .inr (6, [.ref b0, .int 1, .int p1, .int p2])), (b0, .inl (k0, 60, .inr (.inl fz48)))] H ∧ va_D A [(h0, .inr (6, [.ref b0, .int 1, .int p1, .int p2])), (b0, .inl (k0, 60, .inr (.inl fz48)))] := ⟨_, hP, hD⟩
                                                  refine lv_iinc (v := 24) (lv' := [(3, .int 24), (0, .ref h0), (1, .int p1), (2, .int p2)]) hx hb dX6_begin_30 hl (k := 0) rfl (by decide) (by decide) rfl (fun ls hl => ?_)
                                                  refine lv_goto (tgt := 17) hx hb dX6_begin_33 (by decide) ?_
                                                  refine lv_iload_n hx hb dX6_begin_17 rfl (lv_at hl 0 rfl) ?_
                                                  refine lv_bipush (v := 60) hx hb dX6_begin_18 (by decide) ?_
                                                  refine lv_icmp_ge (tgt := 36) hx hb dX6_begin_20 (by decide) (fun cz49 => ?_) (fun cz49 => ?_)
                                                  · skip
                                                    exact absurd cz49 (by decide)
                                                  · skip
                                                    refine lv_aload_n hx hb dX6_begin_23 rfl (lv_at hl 1 rfl) ?_
                                                    refine va_get (D := (dC, dI)) (ci := 6) (v := .ref b0) (C := RX6) (T := TX6) (N := 4) hx hb hts (fun w h => List.mem_cons_of_mem _ (List.mem_append_right _ (List.mem_append_left _ h))) hown hK hP 0 rfl rfl 0 (by decide) (hts (.fieldLink RX6 9 "SagMemory$Slot" "numbers" "[J") (wl_mem 3 rfl)) (fun _ h9 => h9) rfl dX6_begin_24 ?_
                                                    refine lv_iload_n hx hb dX6_begin_27 rfl (lv_at hl 0 rfl) ?_
                                                    refine lv_lconst (v := 0) hx hb dX6_begin_28 (by decide) ?_
                                                    refine va_last hx hb hK hP hD hS 1 0 rfl rfl (by unfold vp_in; decide) dX6_begin_29 (fun H locs hP hD hS => ?_)
                                                    obtain ⟨fz50, hP, hD⟩ : ∃ fz50 : Nat → Int64, va_P (dC, dI) vwCl [(h0, .inr (6, [.ref b0, .int 1, .int p1, .int p2])), (b0, .inl (k0, 60, .inr (.inl fz50)))] H ∧ va_D A [(h0, .inr (6, [.ref b0, .int 1, .int p1, .int p2])), (b0, .inl (k0, 60, .inr (.inl fz50)))] := ⟨_, hP, hD⟩
                                                    refine lv_iinc (v := 25) (lv' := [(3, .int 25), (0, .ref h0), (1, .int p1), (2, .int p2)]) hx hb dX6_begin_30 hl (k := 0) rfl (by decide) (by decide) rfl (fun ls hl => ?_)
                                                    refine lv_goto (tgt := 17) hx hb dX6_begin_33 (by decide) ?_
                                                    refine lv_iload_n hx hb dX6_begin_17 rfl (lv_at hl 0 rfl) ?_
                                                    refine lv_bipush (v := 60) hx hb dX6_begin_18 (by decide) ?_
                                                    refine lv_icmp_ge (tgt := 36) hx hb dX6_begin_20 (by decide) (fun cz51 => ?_) (fun cz51 => ?_)
                                                    · skip
                                                      exact absurd cz51 (by decide)
                                                    · skip
                                                      refine lv_aload_n hx hb dX6_begin_23 rfl (lv_at hl 1 rfl) ?_
                                                      refine va_get (D := (dC, dI)) (ci := 6) (v := .ref b0) (C := RX6) (T := TX6) (N := 4) hx hb hts (fun w h => List.mem_cons_of_mem _ (List.mem_append_right _ (List.mem_append_left _ h))) hown hK hP 0 rfl rfl 0 (by decide) (hts (.fieldLink RX6 9 "SagMemory$Slot" "numbers" "[J") (wl_mem 3 rfl)) (fun _ h9 => h9) rfl dX6_begin_24 ?_
                                                      refine lv_iload_n hx hb dX6_begin_27 rfl (lv_at hl 0 rfl) ?_
                                                      refine lv_lconst (v := 0) hx hb dX6_begin_28 (by decide) ?_
                                                      refine va_last hx hb hK hP hD hS 1 0 rfl rfl (by unfold vp_in; decide) dX6_begin_29 (fun H locs hP hD hS => ?_)
                                                      obtain ⟨fz52, hP, hD⟩ : ∃ fz52 : Nat → Int64, va_P (dC, dI) vwCl [(h0, .inr (6, [.ref b0, .int 1, .int p1, .int p2])), (b0, .inl (k0, 60, .inr (.inl fz52)))] H ∧ va_D A [(h0, .inr (6, [.ref b0, .int 1, .int p1, .int p2])), (b0, .inl (k0, 60, .inr (.inl fz52)))] := ⟨_, hP, hD⟩
                                                      refine lv_iinc (v := 26) (lv' := [(3, .int 26), (0, .ref h0), (1, .int p1), (2, .int p2)]) hx hb dX6_begin_30 hl (k := 0) rfl (by decide) (by decide) rfl (fun ls hl => ?_)
                                                      refine lv_goto (tgt := 17) hx hb dX6_begin_33 (by decide) ?_
                                                      refine lv_iload_n hx hb dX6_begin_17 rfl (lv_at hl 0 rfl) ?_
                                                      refine lv_bipush (v := 60) hx hb dX6_begin_18 (by decide) ?_
                                                      refine lv_icmp_ge (tgt := 36) hx hb dX6_begin_20 (by decide) (fun cz53 => ?_) (fun cz53 => ?_)
                                                      · skip
                                                        exact absurd cz53 (by decide)
                                                      · skip
                                                        refine lv_aload_n hx hb dX6_begin_23 rfl (lv_at hl 1 rfl) ?_
                                                        refine va_get (D := (dC, dI)) (ci := 6) (v := .ref b0) (C := RX6) (T := TX6) (N := 4) hx hb hts (fun w h => List.mem_cons_of_mem _ (List.mem_append_right _ (List.mem_append_left _ h))) hown hK hP 0 rfl rfl 0 (by decide) (hts (.fieldLink RX6 9 "SagMemory$Slot" "numbers" "[J") (wl_mem 3 rfl)) (fun _ h9 => h9) rfl dX6_begin_24 ?_
                                                        refine lv_iload_n hx hb dX6_begin_27 rfl (lv_at hl 0 rfl) ?_
                                                        refine lv_lconst (v := 0) hx hb dX6_begin_28 (by decide) ?_
                                                        refine va_last hx hb hK hP hD hS 1 0 rfl rfl (by unfold vp_in; decide) dX6_begin_29 (fun H locs hP hD hS => ?_)
                                                        obtain ⟨fz54, hP, hD⟩ : ∃ fz54 : Nat → Int64, va_P (dC, dI) vwCl [(h0, .inr (6, [.ref b0, .int 1, .int p1, .int p2])), (b0, .inl (k0, 60, .inr (.inl fz54)))] H ∧ va_D A [(h0, .inr (6, [.ref b0, .int 1, .int p1, .int p2])), (b0, .inl (k0, 60, .inr (.inl fz54)))] := ⟨_, hP, hD⟩
                                                        refine lv_iinc (v := 27) (lv' := [(3, .int 27), (0, .ref h0), (1, .int p1), (2, .int p2)]) hx hb dX6_begin_30 hl (k := 0) rfl (by decide) (by decide) rfl (fun ls hl => ?_)
                                                        refine lv_goto (tgt := 17) hx hb dX6_begin_33 (by decide) ?_
                                                        refine lv_iload_n hx hb dX6_begin_17 rfl (lv_at hl 0 rfl) ?_
                                                        refine lv_bipush (v := 60) hx hb dX6_begin_18 (by decide) ?_
                                                        refine lv_icmp_ge (tgt := 36) hx hb dX6_begin_20 (by decide) (fun cz55 => ?_) (fun cz55 => ?_)
                                                        · skip
                                                          exact absurd cz55 (by decide)
                                                        · skip
                                                          refine lv_aload_n hx hb dX6_begin_23 rfl (lv_at hl 1 rfl) ?_
                                                          refine va_get (D := (dC, dI)) (ci := 6) (v := .ref b0) (C := RX6) (T := TX6) (N := 4) hx hb hts (fun w h => List.mem_cons_of_mem _ (List.mem_append_right _ (List.mem_append_left _ h))) hown hK hP 0 rfl rfl 0 (by decide) (hts (.fieldLink RX6 9 "SagMemory$Slot" "numbers" "[J") (wl_mem 3 rfl)) (fun _ h9 => h9) rfl dX6_begin_24 ?_
                                                          refine lv_iload_n hx hb dX6_begin_27 rfl (lv_at hl 0 rfl) ?_
                                                          refine lv_lconst (v := 0) hx hb dX6_begin_28 (by decide) ?_
                                                          refine va_last hx hb hK hP hD hS 1 0 rfl rfl (by unfold vp_in; decide) dX6_begin_29 (fun H locs hP hD hS => ?_)
                                                          obtain ⟨fz56, hP, hD⟩ : ∃ fz56 : Nat → Int64, va_P (dC, dI) vwCl [(h0, .inr (6, [.ref b0, .int 1, .int p1, .int p2])), (b0, .inl (k0, 60, .inr (.inl fz56)))] H ∧ va_D A [(h0, .inr (6, [.ref b0, .int 1, .int p1, .int p2])), (b0, .inl (k0, 60, .inr (.inl fz56)))] := ⟨_, hP, hD⟩
                                                          refine lv_iinc (v := 28) (lv' := [(3, .int 28), (0, .ref h0), (1, .int p1), (2, .int p2)]) hx hb dX6_begin_30 hl (k := 0) rfl (by decide) (by decide) rfl (fun ls hl => ?_)
                                                          refine lv_goto (tgt := 17) hx hb dX6_begin_33 (by decide) ?_
                                                          refine lv_iload_n hx hb dX6_begin_17 rfl (lv_at hl 0 rfl) ?_
                                                          refine lv_bipush (v := 60) hx hb dX6_begin_18 (by decide) ?_
                                                          refine lv_icmp_ge (tgt := 36) hx hb dX6_begin_20 (by decide) (fun cz57 => ?_) (fun cz57 => ?_)
                                                          · skip
                                                            exact absurd cz57 (by decide)
                                                          · skip
                                                            refine lv_aload_n hx hb dX6_begin_23 rfl (lv_at hl 1 rfl) ?_
                                                            refine va_get (D := (dC, dI)) (ci := 6) (v := .ref b0) (C := RX6) (T := TX6) (N := 4) hx hb hts (fun w h => List.mem_cons_of_mem _ (List.mem_append_right _ (List.mem_append_left _ h))) hown hK hP 0 rfl rfl 0 (by decide) (hts (.fieldLink RX6 9 "SagMemory$Slot" "numbers" "[J") (wl_mem 3 rfl)) (fun _ h9 => h9) rfl dX6_begin_24 ?_
                                                            refine lv_iload_n hx hb dX6_begin_27 rfl (lv_at hl 0 rfl) ?_
                                                            refine lv_lconst (v := 0) hx hb dX6_begin_28 (by decide) ?_
                                                            refine va_last hx hb hK hP hD hS 1 0 rfl rfl (by unfold vp_in; decide) dX6_begin_29 (fun H locs hP hD hS => ?_)
                                                            obtain ⟨fz58, hP, hD⟩ : ∃ fz58 : Nat → Int64, va_P (dC, dI) vwCl [(h0, .inr (6, [.ref b0, .int 1, .int p1, .int p2])), (b0, .inl (k0, 60, .inr (.inl fz58)))] H ∧ va_D A [(h0, .inr (6, [.ref b0, .int 1, .int p1, .int p2])), (b0, .inl (k0, 60, .inr (.inl fz58)))] := ⟨_, hP, hD⟩
                                                            refine lv_iinc (v := 29) (lv' := [(3, .int 29), (0, .ref h0), (1, .int p1), (2, .int p2)]) hx hb dX6_begin_30 hl (k := 0) rfl (by decide) (by decide) rfl (fun ls hl => ?_)
                                                            refine lv_goto (tgt := 17) hx hb dX6_begin_33 (by decide) ?_
                                                            refine lv_iload_n hx hb dX6_begin_17 rfl (lv_at hl 0 rfl) ?_
                                                            refine lv_bipush (v := 60) hx hb dX6_begin_18 (by decide) ?_
                                                            refine lv_icmp_ge (tgt := 36) hx hb dX6_begin_20 (by decide) (fun cz59 => ?_) (fun cz59 => ?_)
                                                            · skip
                                                              exact absurd cz59 (by decide)
                                                            · skip
                                                              refine lv_aload_n hx hb dX6_begin_23 rfl (lv_at hl 1 rfl) ?_
                                                              refine va_get (D := (dC, dI)) (ci := 6) (v := .ref b0) (C := RX6) (T := TX6) (N := 4) hx hb hts (fun w h => List.mem_cons_of_mem _ (List.mem_append_right _ (List.mem_append_left _ h))) hown hK hP 0 rfl rfl 0 (by decide) (hts (.fieldLink RX6 9 "SagMemory$Slot" "numbers" "[J") (wl_mem 3 rfl)) (fun _ h9 => h9) rfl dX6_begin_24 ?_
                                                              refine lv_iload_n hx hb dX6_begin_27 rfl (lv_at hl 0 rfl) ?_
                                                              refine lv_lconst (v := 0) hx hb dX6_begin_28 (by decide) ?_
                                                              refine va_last hx hb hK hP hD hS 1 0 rfl rfl (by unfold vp_in; decide) dX6_begin_29 (fun H locs hP hD hS => ?_)
                                                              obtain ⟨fz60, hP, hD⟩ : ∃ fz60 : Nat → Int64, va_P (dC, dI) vwCl [(h0, .inr (6, [.ref b0, .int 1, .int p1, .int p2])), (b0, .inl (k0, 60, .inr (.inl fz60)))] H ∧ va_D A [(h0, .inr (6, [.ref b0, .int 1, .int p1, .int p2])), (b0, .inl (k0, 60, .inr (.inl fz60)))] := ⟨_, hP, hD⟩
                                                              refine lv_iinc (v := 30) (lv' := [(3, .int 30), (0, .ref h0), (1, .int p1), (2, .int p2)]) hx hb dX6_begin_30 hl (k := 0) rfl (by decide) (by decide) rfl (fun ls hl => ?_)
                                                              refine lv_goto (tgt := 17) hx hb dX6_begin_33 (by decide) ?_
                                                              refine lv_iload_n hx hb dX6_begin_17 rfl (lv_at hl 0 rfl) ?_
                                                              refine lv_bipush (v := 60) hx hb dX6_begin_18 (by decide) ?_
                                                              refine lv_icmp_ge (tgt := 36) hx hb dX6_begin_20 (by decide) (fun cz61 => ?_) (fun cz61 => ?_)
                                                              · skip
                                                                exact absurd cz61 (by decide)
                                                              · skip
                                                                refine lv_aload_n hx hb dX6_begin_23 rfl (lv_at hl 1 rfl) ?_
                                                                refine va_get (D := (dC, dI)) (ci := 6) (v := .ref b0) (C := RX6) (T := TX6) (N := 4) hx hb hts (fun w h => List.mem_cons_of_mem _ (List.mem_append_right _ (List.mem_append_left _ h))) hown hK hP 0 rfl rfl 0 (by decide) (hts (.fieldLink RX6 9 "SagMemory$Slot" "numbers" "[J") (wl_mem 3 rfl)) (fun _ h9 => h9) rfl dX6_begin_24 ?_
                                                                refine lv_iload_n hx hb dX6_begin_27 rfl (lv_at hl 0 rfl) ?_
                                                                refine lv_lconst (v := 0) hx hb dX6_begin_28 (by decide) ?_
                                                                refine va_last hx hb hK hP hD hS 1 0 rfl rfl (by unfold vp_in; decide) dX6_begin_29 (fun H locs hP hD hS => ?_)
                                                                obtain ⟨fz62, hP, hD⟩ : ∃ fz62 : Nat → Int64, va_P (dC, dI) vwCl [(h0, .inr (6, [.ref b0, .int 1, .int p1, .int p2])), (b0, .inl (k0, 60, .inr (.inl fz62)))] H ∧ va_D A [(h0, .inr (6, [.ref b0, .int 1, .int p1, .int p2])), (b0, .inl (k0, 60, .inr (.inl fz62)))] := ⟨_, hP, hD⟩
                                                                refine lv_iinc (v := 31) (lv' := [(3, .int 31), (0, .ref h0), (1, .int p1), (2, .int p2)]) hx hb dX6_begin_30 hl (k := 0) rfl (by decide) (by decide) rfl (fun ls hl => ?_)
                                                                refine lv_goto (tgt := 17) hx hb dX6_begin_33 (by decide) ?_
                                                                refine lv_iload_n hx hb dX6_begin_17 rfl (lv_at hl 0 rfl) ?_
                                                                refine lv_bipush (v := 60) hx hb dX6_begin_18 (by decide) ?_
                                                                refine lv_icmp_ge (tgt := 36) hx hb dX6_begin_20 (by decide) (fun cz63 => ?_) (fun cz63 => ?_)
                                                                · skip
                                                                  exact absurd cz63 (by decide)
                                                                · skip
                                                                  refine lv_aload_n hx hb dX6_begin_23 rfl (lv_at hl 1 rfl) ?_
                                                                  refine va_get (D := (dC, dI)) (ci := 6) (v := .ref b0) (C := RX6) (T := TX6) (N := 4) hx hb hts (fun w h => List.mem_cons_of_mem _ (List.mem_append_right _ (List.mem_append_left _ h))) hown hK hP 0 rfl rfl 0 (by decide) (hts (.fieldLink RX6 9 "SagMemory$Slot" "numbers" "[J") (wl_mem 3 rfl)) (fun _ h9 => h9) rfl dX6_begin_24 ?_
                                                                  refine lv_iload_n hx hb dX6_begin_27 rfl (lv_at hl 0 rfl) ?_
                                                                  refine lv_lconst (v := 0) hx hb dX6_begin_28 (by decide) ?_
                                                                  refine va_last hx hb hK hP hD hS 1 0 rfl rfl (by unfold vp_in; decide) dX6_begin_29 (fun H locs hP hD hS => ?_)
                                                                  obtain ⟨fz64, hP, hD⟩ : ∃ fz64 : Nat → Int64, va_P (dC, dI) vwCl [(h0, .inr (6, [.ref b0, .int 1, .int p1, .int p2])), (b0, .inl (k0, 60, .inr (.inl fz64)))] H ∧ va_D A [(h0, .inr (6, [.ref b0, .int 1, .int p1, .int p2])), (b0, .inl (k0, 60, .inr (.inl fz64)))] := ⟨_, hP, hD⟩
                                                                  refine lv_iinc (v := 32) (lv' := [(3, .int 32), (0, .ref h0), (1, .int p1), (2, .int p2)]) hx hb dX6_begin_30 hl (k := 0) rfl (by decide) (by decide) rfl (fun ls hl => ?_)
                                                                  refine lv_goto (tgt := 17) hx hb dX6_begin_33 (by decide) ?_
                                                                  refine lv_iload_n hx hb dX6_begin_17 rfl (lv_at hl 0 rfl) ?_
                                                                  refine lv_bipush (v := 60) hx hb dX6_begin_18 (by decide) ?_
                                                                  refine lv_icmp_ge (tgt := 36) hx hb dX6_begin_20 (by decide) (fun cz65 => ?_) (fun cz65 => ?_)
                                                                  · skip
                                                                    exact absurd cz65 (by decide)
                                                                  · skip
                                                                    refine lv_aload_n hx hb dX6_begin_23 rfl (lv_at hl 1 rfl) ?_
                                                                    refine va_get (D := (dC, dI)) (ci := 6) (v := .ref b0) (C := RX6) (T := TX6) (N := 4) hx hb hts (fun w h => List.mem_cons_of_mem _ (List.mem_append_right _ (List.mem_append_left _ h))) hown hK hP 0 rfl rfl 0 (by decide) (hts (.fieldLink RX6 9 "SagMemory$Slot" "numbers" "[J") (wl_mem 3 rfl)) (fun _ h9 => h9) rfl dX6_begin_24 ?_
                                                                    refine lv_iload_n hx hb dX6_begin_27 rfl (lv_at hl 0 rfl) ?_
                                                                    refine lv_lconst (v := 0) hx hb dX6_begin_28 (by decide) ?_
                                                                    refine va_last hx hb hK hP hD hS 1 0 rfl rfl (by unfold vp_in; decide) dX6_begin_29 (fun H locs hP hD hS => ?_)
                                                                    obtain ⟨fz66, hP, hD⟩ : ∃ fz66 : Nat → Int64, va_P (dC, dI) vwCl [(h0, .inr (6, [.ref b0, .int 1, .int p1, .int p2])), (b0, .inl (k0, 60, .inr (.inl fz66)))] H ∧ va_D A [(h0, .inr (6, [.ref b0, .int 1, .int p1, .int p2])), (b0, .inl (k0, 60, .inr (.inl fz66)))] := ⟨_, hP, hD⟩
                                                                    refine lv_iinc (v := 33) (lv' := [(3, .int 33), (0, .ref h0), (1, .int p1), (2, .int p2)]) hx hb dX6_begin_30 hl (k := 0) rfl (by decide) (by decide) rfl (fun ls hl => ?_)
                                                                    refine lv_goto (tgt := 17) hx hb dX6_begin_33 (by decide) ?_
                                                                    refine lv_iload_n hx hb dX6_begin_17 rfl (lv_at hl 0 rfl) ?_
                                                                    refine lv_bipush (v := 60) hx hb dX6_begin_18 (by decide) ?_
                                                                    refine lv_icmp_ge (tgt := 36) hx hb dX6_begin_20 (by decide) (fun cz67 => ?_) (fun cz67 => ?_)
                                                                    · skip
                                                                      exact absurd cz67 (by decide)
                                                                    · skip
                                                                      refine lv_aload_n hx hb dX6_begin_23 rfl (lv_at hl 1 rfl) ?_
                                                                      refine va_get (D := (dC, dI)) (ci := 6) (v := .ref b0) (C := RX6) (T := TX6) (N := 4) hx hb hts (fun w h => List.mem_cons_of_mem _ (List.mem_append_right _ (List.mem_append_left _ h))) hown hK hP 0 rfl rfl 0 (by decide) (hts (.fieldLink RX6 9 "SagMemory$Slot" "numbers" "[J") (wl_mem 3 rfl)) (fun _ h9 => h9) rfl dX6_begin_24 ?_
                                                                      refine lv_iload_n hx hb dX6_begin_27 rfl (lv_at hl 0 rfl) ?_
                                                                      refine lv_lconst (v := 0) hx hb dX6_begin_28 (by decide) ?_
                                                                      refine va_last hx hb hK hP hD hS 1 0 rfl rfl (by unfold vp_in; decide) dX6_begin_29 (fun H locs hP hD hS => ?_)
                                                                      obtain ⟨fz68, hP, hD⟩ : ∃ fz68 : Nat → Int64, va_P (dC, dI) vwCl [(h0, .inr (6, [.ref b0, .int 1, .int p1, .int p2])), (b0, .inl (k0, 60, .inr (.inl fz68)))] H ∧ va_D A [(h0, .inr (6, [.ref b0, .int 1, .int p1, .int p2])), (b0, .inl (k0, 60, .inr (.inl fz68)))] := ⟨_, hP, hD⟩
                                                                      refine lv_iinc (v := 34) (lv' := [(3, .int 34), (0, .ref h0), (1, .int p1), (2, .int p2)]) hx hb dX6_begin_30 hl (k := 0) rfl (by decide) (by decide) rfl (fun ls hl => ?_)
                                                                      refine lv_goto (tgt := 17) hx hb dX6_begin_33 (by decide) ?_
                                                                      refine lv_iload_n hx hb dX6_begin_17 rfl (lv_at hl 0 rfl) ?_
                                                                      refine lv_bipush (v := 60) hx hb dX6_begin_18 (by decide) ?_
                                                                      refine lv_icmp_ge (tgt := 36) hx hb dX6_begin_20 (by decide) (fun cz69 => ?_) (fun cz69 => ?_)
                                                                      · skip
                                                                        exact absurd cz69 (by decide)
                                                                      · skip
                                                                        refine lv_aload_n hx hb dX6_begin_23 rfl (lv_at hl 1 rfl) ?_
                                                                        refine va_get (D := (dC, dI)) (ci := 6) (v := .ref b0) (C := RX6) (T := TX6) (N := 4) hx hb hts (fun w h => List.mem_cons_of_mem _ (List.mem_append_right _ (List.mem_append_left _ h))) hown hK hP 0 rfl rfl 0 (by decide) (hts (.fieldLink RX6 9 "SagMemory$Slot" "numbers" "[J") (wl_mem 3 rfl)) (fun _ h9 => h9) rfl dX6_begin_24 ?_
                                                                        refine lv_iload_n hx hb dX6_begin_27 rfl (lv_at hl 0 rfl) ?_
                                                                        refine lv_lconst (v := 0) hx hb dX6_begin_28 (by decide) ?_
                                                                        refine va_last hx hb hK hP hD hS 1 0 rfl rfl (by unfold vp_in; decide) dX6_begin_29 (fun H locs hP hD hS => ?_)
                                                                        obtain ⟨fz70, hP, hD⟩ : ∃ fz70 : Nat → Int64, va_P (dC, dI) vwCl [(h0, .inr (6, [.ref b0, .int 1, .int p1, .int p2])), (b0, .inl (k0, 60, .inr (.inl fz70)))] H ∧ va_D A [(h0, .inr (6, [.ref b0, .int 1, .int p1, .int p2])), (b0, .inl (k0, 60, .inr (.inl fz70)))] := ⟨_, hP, hD⟩
                                                                        refine lv_iinc (v := 35) (lv' := [(3, .int 35), (0, .ref h0), (1, .int p1), (2, .int p2)]) hx hb dX6_begin_30 hl (k := 0) rfl (by decide) (by decide) rfl (fun ls hl => ?_)
                                                                        refine lv_goto (tgt := 17) hx hb dX6_begin_33 (by decide) ?_
                                                                        refine lv_iload_n hx hb dX6_begin_17 rfl (lv_at hl 0 rfl) ?_
                                                                        refine lv_bipush (v := 60) hx hb dX6_begin_18 (by decide) ?_
                                                                        refine lv_icmp_ge (tgt := 36) hx hb dX6_begin_20 (by decide) (fun cz71 => ?_) (fun cz71 => ?_)
                                                                        · skip
                                                                          exact absurd cz71 (by decide)
                                                                        · skip
                                                                          refine lv_aload_n hx hb dX6_begin_23 rfl (lv_at hl 1 rfl) ?_
                                                                          refine va_get (D := (dC, dI)) (ci := 6) (v := .ref b0) (C := RX6) (T := TX6) (N := 4) hx hb hts (fun w h => List.mem_cons_of_mem _ (List.mem_append_right _ (List.mem_append_left _ h))) hown hK hP 0 rfl rfl 0 (by decide) (hts (.fieldLink RX6 9 "SagMemory$Slot" "numbers" "[J") (wl_mem 3 rfl)) (fun _ h9 => h9) rfl dX6_begin_24 ?_
                                                                          refine lv_iload_n hx hb dX6_begin_27 rfl (lv_at hl 0 rfl) ?_
                                                                          refine lv_lconst (v := 0) hx hb dX6_begin_28 (by decide) ?_
                                                                          refine va_last hx hb hK hP hD hS 1 0 rfl rfl (by unfold vp_in; decide) dX6_begin_29 (fun H locs hP hD hS => ?_)
                                                                          obtain ⟨fz72, hP, hD⟩ : ∃ fz72 : Nat → Int64, va_P (dC, dI) vwCl [(h0, .inr (6, [.ref b0, .int 1, .int p1, .int p2])), (b0, .inl (k0, 60, .inr (.inl fz72)))] H ∧ va_D A [(h0, .inr (6, [.ref b0, .int 1, .int p1, .int p2])), (b0, .inl (k0, 60, .inr (.inl fz72)))] := ⟨_, hP, hD⟩
                                                                          refine lv_iinc (v := 36) (lv' := [(3, .int 36), (0, .ref h0), (1, .int p1), (2, .int p2)]) hx hb dX6_begin_30 hl (k := 0) rfl (by decide) (by decide) rfl (fun ls hl => ?_)
                                                                          refine lv_goto (tgt := 17) hx hb dX6_begin_33 (by decide) ?_
                                                                          refine lv_iload_n hx hb dX6_begin_17 rfl (lv_at hl 0 rfl) ?_
                                                                          refine lv_bipush (v := 60) hx hb dX6_begin_18 (by decide) ?_
                                                                          refine lv_icmp_ge (tgt := 36) hx hb dX6_begin_20 (by decide) (fun cz73 => ?_) (fun cz73 => ?_)
                                                                          · skip
                                                                            exact absurd cz73 (by decide)
                                                                          · skip
                                                                            refine lv_aload_n hx hb dX6_begin_23 rfl (lv_at hl 1 rfl) ?_
                                                                            refine va_get (D := (dC, dI)) (ci := 6) (v := .ref b0) (C := RX6) (T := TX6) (N := 4) hx hb hts (fun w h => List.mem_cons_of_mem _ (List.mem_append_right _ (List.mem_append_left _ h))) hown hK hP 0 rfl rfl 0 (by decide) (hts (.fieldLink RX6 9 "SagMemory$Slot" "numbers" "[J") (wl_mem 3 rfl)) (fun _ h9 => h9) rfl dX6_begin_24 ?_
                                                                            refine lv_iload_n hx hb dX6_begin_27 rfl (lv_at hl 0 rfl) ?_
                                                                            refine lv_lconst (v := 0) hx hb dX6_begin_28 (by decide) ?_
                                                                            refine va_last hx hb hK hP hD hS 1 0 rfl rfl (by unfold vp_in; decide) dX6_begin_29 (fun H locs hP hD hS => ?_)
                                                                            obtain ⟨fz74, hP, hD⟩ : ∃ fz74 : Nat → Int64, va_P (dC, dI) vwCl [(h0, .inr (6, [.ref b0, .int 1, .int p1, .int p2])), (b0, .inl (k0, 60, .inr (.inl fz74)))] H ∧ va_D A [(h0, .inr (6, [.ref b0, .int 1, .int p1, .int p2])), (b0, .inl (k0, 60, .inr (.inl fz74)))] := ⟨_, hP, hD⟩
                                                                            refine lv_iinc (v := 37) (lv' := [(3, .int 37), (0, .ref h0), (1, .int p1), (2, .int p2)]) hx hb dX6_begin_30 hl (k := 0) rfl (by decide) (by decide) rfl (fun ls hl => ?_)
                                                                            refine lv_goto (tgt := 17) hx hb dX6_begin_33 (by decide) ?_
                                                                            refine lv_iload_n hx hb dX6_begin_17 rfl (lv_at hl 0 rfl) ?_
                                                                            refine lv_bipush (v := 60) hx hb dX6_begin_18 (by decide) ?_
                                                                            refine lv_icmp_ge (tgt := 36) hx hb dX6_begin_20 (by decide) (fun cz75 => ?_) (fun cz75 => ?_)
                                                                            · skip
                                                                              exact absurd cz75 (by decide)
                                                                            · skip
                                                                              refine lv_aload_n hx hb dX6_begin_23 rfl (lv_at hl 1 rfl) ?_
                                                                              refine va_get (D := (dC, dI)) (ci := 6) (v := .ref b0) (C := RX6) (T := TX6) (N := 4) hx hb hts (fun w h => List.mem_cons_of_mem _ (List.mem_append_right _ (List.mem_append_left _ h))) hown hK hP 0 rfl rfl 0 (by decide) (hts (.fieldLink RX6 9 "SagMemory$Slot" "numbers" "[J") (wl_mem 3 rfl)) (fun _ h9 => h9) rfl dX6_begin_24 ?_
                                                                              refine lv_iload_n hx hb dX6_begin_27 rfl (lv_at hl 0 rfl) ?_
                                                                              refine lv_lconst (v := 0) hx hb dX6_begin_28 (by decide) ?_
                                                                              refine va_last hx hb hK hP hD hS 1 0 rfl rfl (by unfold vp_in; decide) dX6_begin_29 (fun H locs hP hD hS => ?_)
                                                                              obtain ⟨fz76, hP, hD⟩ : ∃ fz76 : Nat → Int64, va_P (dC, dI) vwCl [(h0, .inr (6, [.ref b0, .int 1, .int p1, .int p2])), (b0, .inl (k0, 60, .inr (.inl fz76)))] H ∧ va_D A [(h0, .inr (6, [.ref b0, .int 1, .int p1, .int p2])), (b0, .inl (k0, 60, .inr (.inl fz76)))] := ⟨_, hP, hD⟩
                                                                              refine lv_iinc (v := 38) (lv' := [(3, .int 38), (0, .ref h0), (1, .int p1), (2, .int p2)]) hx hb dX6_begin_30 hl (k := 0) rfl (by decide) (by decide) rfl (fun ls hl => ?_)
                                                                              refine lv_goto (tgt := 17) hx hb dX6_begin_33 (by decide) ?_
                                                                              refine lv_iload_n hx hb dX6_begin_17 rfl (lv_at hl 0 rfl) ?_
                                                                              refine lv_bipush (v := 60) hx hb dX6_begin_18 (by decide) ?_
                                                                              refine lv_icmp_ge (tgt := 36) hx hb dX6_begin_20 (by decide) (fun cz77 => ?_) (fun cz77 => ?_)
                                                                              · skip
                                                                                exact absurd cz77 (by decide)
                                                                              · skip
                                                                                refine lv_aload_n hx hb dX6_begin_23 rfl (lv_at hl 1 rfl) ?_
                                                                                refine va_get (D := (dC, dI)) (ci := 6) (v := .ref b0) (C := RX6) (T := TX6) (N := 4) hx hb hts (fun w h => List.mem_cons_of_mem _ (List.mem_append_right _ (List.mem_append_left _ h))) hown hK hP 0 rfl rfl 0 (by decide) (hts (.fieldLink RX6 9 "SagMemory$Slot" "numbers" "[J") (wl_mem 3 rfl)) (fun _ h9 => h9) rfl dX6_begin_24 ?_
                                                                                refine lv_iload_n hx hb dX6_begin_27 rfl (lv_at hl 0 rfl) ?_
                                                                                refine lv_lconst (v := 0) hx hb dX6_begin_28 (by decide) ?_
                                                                                refine va_last hx hb hK hP hD hS 1 0 rfl rfl (by unfold vp_in; decide) dX6_begin_29 (fun H locs hP hD hS => ?_)
                                                                                obtain ⟨fz78, hP, hD⟩ : ∃ fz78 : Nat → Int64, va_P (dC, dI) vwCl [(h0, .inr (6, [.ref b0, .int 1, .int p1, .int p2])), (b0, .inl (k0, 60, .inr (.inl fz78)))] H ∧ va_D A [(h0, .inr (6, [.ref b0, .int 1, .int p1, .int p2])), (b0, .inl (k0, 60, .inr (.inl fz78)))] := ⟨_, hP, hD⟩
                                                                                refine lv_iinc (v := 39) (lv' := [(3, .int 39), (0, .ref h0), (1, .int p1), (2, .int p2)]) hx hb dX6_begin_30 hl (k := 0) rfl (by decide) (by decide) rfl (fun ls hl => ?_)
                                                                                refine lv_goto (tgt := 17) hx hb dX6_begin_33 (by decide) ?_
                                                                                refine lv_iload_n hx hb dX6_begin_17 rfl (lv_at hl 0 rfl) ?_
                                                                                refine lv_bipush (v := 60) hx hb dX6_begin_18 (by decide) ?_
                                                                                refine lv_icmp_ge (tgt := 36) hx hb dX6_begin_20 (by decide) (fun cz79 => ?_) (fun cz79 => ?_)
                                                                                · skip
                                                                                  exact absurd cz79 (by decide)
                                                                                · skip
                                                                                  refine lv_aload_n hx hb dX6_begin_23 rfl (lv_at hl 1 rfl) ?_
                                                                                  refine va_get (D := (dC, dI)) (ci := 6) (v := .ref b0) (C := RX6) (T := TX6) (N := 4) hx hb hts (fun w h => List.mem_cons_of_mem _ (List.mem_append_right _ (List.mem_append_left _ h))) hown hK hP 0 rfl rfl 0 (by decide) (hts (.fieldLink RX6 9 "SagMemory$Slot" "numbers" "[J") (wl_mem 3 rfl)) (fun _ h9 => h9) rfl dX6_begin_24 ?_
                                                                                  refine lv_iload_n hx hb dX6_begin_27 rfl (lv_at hl 0 rfl) ?_
                                                                                  refine lv_lconst (v := 0) hx hb dX6_begin_28 (by decide) ?_
                                                                                  refine va_last hx hb hK hP hD hS 1 0 rfl rfl (by unfold vp_in; decide) dX6_begin_29 (fun H locs hP hD hS => ?_)
                                                                                  obtain ⟨fz80, hP, hD⟩ : ∃ fz80 : Nat → Int64, va_P (dC, dI) vwCl [(h0, .inr (6, [.ref b0, .int 1, .int p1, .int p2])), (b0, .inl (k0, 60, .inr (.inl fz80)))] H ∧ va_D A [(h0, .inr (6, [.ref b0, .int 1, .int p1, .int p2])), (b0, .inl (k0, 60, .inr (.inl fz80)))] := ⟨_, hP, hD⟩
                                                                                  refine lv_iinc (v := 40) (lv' := [(3, .int 40), (0, .ref h0), (1, .int p1), (2, .int p2)]) hx hb dX6_begin_30 hl (k := 0) rfl (by decide) (by decide) rfl (fun ls hl => ?_)
                                                                                  refine lv_goto (tgt := 17) hx hb dX6_begin_33 (by decide) ?_
                                                                                  refine lv_iload_n hx hb dX6_begin_17 rfl (lv_at hl 0 rfl) ?_
                                                                                  refine lv_bipush (v := 60) hx hb dX6_begin_18 (by decide) ?_
                                                                                  refine lv_icmp_ge (tgt := 36) hx hb dX6_begin_20 (by decide) (fun cz81 => ?_) (fun cz81 => ?_)
                                                                                  · skip
                                                                                    exact absurd cz81 (by decide)
                                                                                  · skip
                                                                                    refine lv_aload_n hx hb dX6_begin_23 rfl (lv_at hl 1 rfl) ?_
                                                                                    refine va_get (D := (dC, dI)) (ci := 6) (v := .ref b0) (C := RX6) (T := TX6) (N := 4) hx hb hts (fun w h => List.mem_cons_of_mem _ (List.mem_append_right _ (List.mem_append_left _ h))) hown hK hP 0 rfl rfl 0 (by decide) (hts (.fieldLink RX6 9 "SagMemory$Slot" "numbers" "[J") (wl_mem 3 rfl)) (fun _ h9 => h9) rfl dX6_begin_24 ?_
                                                                                    refine lv_iload_n hx hb dX6_begin_27 rfl (lv_at hl 0 rfl) ?_
                                                                                    refine lv_lconst (v := 0) hx hb dX6_begin_28 (by decide) ?_
                                                                                    refine va_last hx hb hK hP hD hS 1 0 rfl rfl (by unfold vp_in; decide) dX6_begin_29 (fun H locs hP hD hS => ?_)
                                                                                    obtain ⟨fz82, hP, hD⟩ : ∃ fz82 : Nat → Int64, va_P (dC, dI) vwCl [(h0, .inr (6, [.ref b0, .int 1, .int p1, .int p2])), (b0, .inl (k0, 60, .inr (.inl fz82)))] H ∧ va_D A [(h0, .inr (6, [.ref b0, .int 1, .int p1, .int p2])), (b0, .inl (k0, 60, .inr (.inl fz82)))] := ⟨_, hP, hD⟩
                                                                                    refine lv_iinc (v := 41) (lv' := [(3, .int 41), (0, .ref h0), (1, .int p1), (2, .int p2)]) hx hb dX6_begin_30 hl (k := 0) rfl (by decide) (by decide) rfl (fun ls hl => ?_)
                                                                                    refine lv_goto (tgt := 17) hx hb dX6_begin_33 (by decide) ?_
                                                                                    refine lv_iload_n hx hb dX6_begin_17 rfl (lv_at hl 0 rfl) ?_
                                                                                    refine lv_bipush (v := 60) hx hb dX6_begin_18 (by decide) ?_
                                                                                    refine lv_icmp_ge (tgt := 36) hx hb dX6_begin_20 (by decide) (fun cz83 => ?_) (fun cz83 => ?_)
                                                                                    · skip
                                                                                      exact absurd cz83 (by decide)
                                                                                    · skip
                                                                                      refine lv_aload_n hx hb dX6_begin_23 rfl (lv_at hl 1 rfl) ?_
                                                                                      refine va_get (D := (dC, dI)) (ci := 6) (v := .ref b0) (C := RX6) (T := TX6) (N := 4) hx hb hts (fun w h => List.mem_cons_of_mem _ (List.mem_append_right _ (List.mem_append_left _ h))) hown hK hP 0 rfl rfl 0 (by decide) (hts (.fieldLink RX6 9 "SagMemory$Slot" "numbers" "[J") (wl_mem 3 rfl)) (fun _ h9 => h9) rfl dX6_begin_24 ?_
                                                                                      refine lv_iload_n hx hb dX6_begin_27 rfl (lv_at hl 0 rfl) ?_
                                                                                      refine lv_lconst (v := 0) hx hb dX6_begin_28 (by decide) ?_
                                                                                      refine va_last hx hb hK hP hD hS 1 0 rfl rfl (by unfold vp_in; decide) dX6_begin_29 (fun H locs hP hD hS => ?_)
                                                                                      obtain ⟨fz84, hP, hD⟩ : ∃ fz84 : Nat → Int64, va_P (dC, dI) vwCl [(h0, .inr (6, [.ref b0, .int 1, .int p1, .int p2])), (b0, .inl (k0, 60, .inr (.inl fz84)))] H ∧ va_D A [(h0, .inr (6, [.ref b0, .int 1, .int p1, .int p2])), (b0, .inl (k0, 60, .inr (.inl fz84)))] := ⟨_, hP, hD⟩
                                                                                      refine lv_iinc (v := 42) (lv' := [(3, .int 42), (0, .ref h0), (1, .int p1), (2, .int p2)]) hx hb dX6_begin_30 hl (k := 0) rfl (by decide) (by decide) rfl (fun ls hl => ?_)
                                                                                      refine lv_goto (tgt := 17) hx hb dX6_begin_33 (by decide) ?_
                                                                                      refine lv_iload_n hx hb dX6_begin_17 rfl (lv_at hl 0 rfl) ?_
                                                                                      refine lv_bipush (v := 60) hx hb dX6_begin_18 (by decide) ?_
                                                                                      refine lv_icmp_ge (tgt := 36) hx hb dX6_begin_20 (by decide) (fun cz85 => ?_) (fun cz85 => ?_)
                                                                                      · skip
                                                                                        exact absurd cz85 (by decide)
                                                                                      · skip
                                                                                        refine lv_aload_n hx hb dX6_begin_23 rfl (lv_at hl 1 rfl) ?_
                                                                                        refine va_get (D := (dC, dI)) (ci := 6) (v := .ref b0) (C := RX6) (T := TX6) (N := 4) hx hb hts (fun w h => List.mem_cons_of_mem _ (List.mem_append_right _ (List.mem_append_left _ h))) hown hK hP 0 rfl rfl 0 (by decide) (hts (.fieldLink RX6 9 "SagMemory$Slot" "numbers" "[J") (wl_mem 3 rfl)) (fun _ h9 => h9) rfl dX6_begin_24 ?_
                                                                                        refine lv_iload_n hx hb dX6_begin_27 rfl (lv_at hl 0 rfl) ?_
                                                                                        refine lv_lconst (v := 0) hx hb dX6_begin_28 (by decide) ?_
                                                                                        refine va_last hx hb hK hP hD hS 1 0 rfl rfl (by unfold vp_in; decide) dX6_begin_29 (fun H locs hP hD hS => ?_)
                                                                                        obtain ⟨fz86, hP, hD⟩ : ∃ fz86 : Nat → Int64, va_P (dC, dI) vwCl [(h0, .inr (6, [.ref b0, .int 1, .int p1, .int p2])), (b0, .inl (k0, 60, .inr (.inl fz86)))] H ∧ va_D A [(h0, .inr (6, [.ref b0, .int 1, .int p1, .int p2])), (b0, .inl (k0, 60, .inr (.inl fz86)))] := ⟨_, hP, hD⟩
                                                                                        refine lv_iinc (v := 43) (lv' := [(3, .int 43), (0, .ref h0), (1, .int p1), (2, .int p2)]) hx hb dX6_begin_30 hl (k := 0) rfl (by decide) (by decide) rfl (fun ls hl => ?_)
                                                                                        refine lv_goto (tgt := 17) hx hb dX6_begin_33 (by decide) ?_
                                                                                        refine lv_iload_n hx hb dX6_begin_17 rfl (lv_at hl 0 rfl) ?_
                                                                                        refine lv_bipush (v := 60) hx hb dX6_begin_18 (by decide) ?_
                                                                                        refine lv_icmp_ge (tgt := 36) hx hb dX6_begin_20 (by decide) (fun cz87 => ?_) (fun cz87 => ?_)
                                                                                        · skip
                                                                                          exact absurd cz87 (by decide)
                                                                                        · skip
                                                                                          refine lv_aload_n hx hb dX6_begin_23 rfl (lv_at hl 1 rfl) ?_
                                                                                          refine va_get (D := (dC, dI)) (ci := 6) (v := .ref b0) (C := RX6) (T := TX6) (N := 4) hx hb hts (fun w h => List.mem_cons_of_mem _ (List.mem_append_right _ (List.mem_append_left _ h))) hown hK hP 0 rfl rfl 0 (by decide) (hts (.fieldLink RX6 9 "SagMemory$Slot" "numbers" "[J") (wl_mem 3 rfl)) (fun _ h9 => h9) rfl dX6_begin_24 ?_
                                                                                          refine lv_iload_n hx hb dX6_begin_27 rfl (lv_at hl 0 rfl) ?_
                                                                                          refine lv_lconst (v := 0) hx hb dX6_begin_28 (by decide) ?_
                                                                                          refine va_last hx hb hK hP hD hS 1 0 rfl rfl (by unfold vp_in; decide) dX6_begin_29 (fun H locs hP hD hS => ?_)
                                                                                          obtain ⟨fz88, hP, hD⟩ : ∃ fz88 : Nat → Int64, va_P (dC, dI) vwCl [(h0, .inr (6, [.ref b0, .int 1, .int p1, .int p2])), (b0, .inl (k0, 60, .inr (.inl fz88)))] H ∧ va_D A [(h0, .inr (6, [.ref b0, .int 1, .int p1, .int p2])), (b0, .inl (k0, 60, .inr (.inl fz88)))] := ⟨_, hP, hD⟩
                                                                                          refine lv_iinc (v := 44) (lv' := [(3, .int 44), (0, .ref h0), (1, .int p1), (2, .int p2)]) hx hb dX6_begin_30 hl (k := 0) rfl (by decide) (by decide) rfl (fun ls hl => ?_)
                                                                                          refine lv_goto (tgt := 17) hx hb dX6_begin_33 (by decide) ?_
                                                                                          refine lv_iload_n hx hb dX6_begin_17 rfl (lv_at hl 0 rfl) ?_
                                                                                          refine lv_bipush (v := 60) hx hb dX6_begin_18 (by decide) ?_
                                                                                          refine lv_icmp_ge (tgt := 36) hx hb dX6_begin_20 (by decide) (fun cz89 => ?_) (fun cz89 => ?_)
                                                                                          · skip
                                                                                            exact absurd cz89 (by decide)
                                                                                          · skip
                                                                                            refine lv_aload_n hx hb dX6_begin_23 rfl (lv_at hl 1 rfl) ?_
                                                                                            refine va_get (D := (dC, dI)) (ci := 6) (v := .ref b0) (C := RX6) (T := TX6) (N := 4) hx hb hts (fun w h => List.mem_cons_of_mem _ (List.mem_append_right _ (List.mem_append_left _ h))) hown hK hP 0 rfl rfl 0 (by decide) (hts (.fieldLink RX6 9 "SagMemory$Slot" "numbers" "[J") (wl_mem 3 rfl)) (fun _ h9 => h9) rfl dX6_begin_24 ?_
                                                                                            refine lv_iload_n hx hb dX6_begin_27 rfl (lv_at hl 0 rfl) ?_
                                                                                            refine lv_lconst (v := 0) hx hb dX6_begin_28 (by decide) ?_
                                                                                            refine va_last hx hb hK hP hD hS 1 0 rfl rfl (by unfold vp_in; decide) dX6_begin_29 (fun H locs hP hD hS => ?_)
                                                                                            obtain ⟨fz90, hP, hD⟩ : ∃ fz90 : Nat → Int64, va_P (dC, dI) vwCl [(h0, .inr (6, [.ref b0, .int 1, .int p1, .int p2])), (b0, .inl (k0, 60, .inr (.inl fz90)))] H ∧ va_D A [(h0, .inr (6, [.ref b0, .int 1, .int p1, .int p2])), (b0, .inl (k0, 60, .inr (.inl fz90)))] := ⟨_, hP, hD⟩
                                                                                            refine lv_iinc (v := 45) (lv' := [(3, .int 45), (0, .ref h0), (1, .int p1), (2, .int p2)]) hx hb dX6_begin_30 hl (k := 0) rfl (by decide) (by decide) rfl (fun ls hl => ?_)
                                                                                            refine lv_goto (tgt := 17) hx hb dX6_begin_33 (by decide) ?_
                                                                                            refine lv_iload_n hx hb dX6_begin_17 rfl (lv_at hl 0 rfl) ?_
                                                                                            refine lv_bipush (v := 60) hx hb dX6_begin_18 (by decide) ?_
                                                                                            refine lv_icmp_ge (tgt := 36) hx hb dX6_begin_20 (by decide) (fun cz91 => ?_) (fun cz91 => ?_)
                                                                                            · skip
                                                                                              exact absurd cz91 (by decide)
                                                                                            · skip
                                                                                              refine lv_aload_n hx hb dX6_begin_23 rfl (lv_at hl 1 rfl) ?_
                                                                                              refine va_get (D := (dC, dI)) (ci := 6) (v := .ref b0) (C := RX6) (T := TX6) (N := 4) hx hb hts (fun w h => List.mem_cons_of_mem _ (List.mem_append_right _ (List.mem_append_left _ h))) hown hK hP 0 rfl rfl 0 (by decide) (hts (.fieldLink RX6 9 "SagMemory$Slot" "numbers" "[J") (wl_mem 3 rfl)) (fun _ h9 => h9) rfl dX6_begin_24 ?_
                                                                                              refine lv_iload_n hx hb dX6_begin_27 rfl (lv_at hl 0 rfl) ?_
                                                                                              refine lv_lconst (v := 0) hx hb dX6_begin_28 (by decide) ?_
                                                                                              refine va_last hx hb hK hP hD hS 1 0 rfl rfl (by unfold vp_in; decide) dX6_begin_29 (fun H locs hP hD hS => ?_)
                                                                                              obtain ⟨fz92, hP, hD⟩ : ∃ fz92 : Nat → Int64, va_P (dC, dI) vwCl [(h0, .inr (6, [.ref b0, .int 1, .int p1, .int p2])), (b0, .inl (k0, 60, .inr (.inl fz92)))] H ∧ va_D A [(h0, .inr (6, [.ref b0, .int 1, .int p1, .int p2])), (b0, .inl (k0, 60, .inr (.inl fz92)))] := ⟨_, hP, hD⟩
                                                                                              refine lv_iinc (v := 46) (lv' := [(3, .int 46), (0, .ref h0), (1, .int p1), (2, .int p2)]) hx hb dX6_begin_30 hl (k := 0) rfl (by decide) (by decide) rfl (fun ls hl => ?_)
                                                                                              refine lv_goto (tgt := 17) hx hb dX6_begin_33 (by decide) ?_
                                                                                              refine lv_iload_n hx hb dX6_begin_17 rfl (lv_at hl 0 rfl) ?_
                                                                                              refine lv_bipush (v := 60) hx hb dX6_begin_18 (by decide) ?_
                                                                                              refine lv_icmp_ge (tgt := 36) hx hb dX6_begin_20 (by decide) (fun cz93 => ?_) (fun cz93 => ?_)
                                                                                              · skip
                                                                                                exact absurd cz93 (by decide)
                                                                                              · skip
                                                                                                refine lv_aload_n hx hb dX6_begin_23 rfl (lv_at hl 1 rfl) ?_
                                                                                                refine va_get (D := (dC, dI)) (ci := 6) (v := .ref b0) (C := RX6) (T := TX6) (N := 4) hx hb hts (fun w h => List.mem_cons_of_mem _ (List.mem_append_right _ (List.mem_append_left _ h))) hown hK hP 0 rfl rfl 0 (by decide) (hts (.fieldLink RX6 9 "SagMemory$Slot" "numbers" "[J") (wl_mem 3 rfl)) (fun _ h9 => h9) rfl dX6_begin_24 ?_
                                                                                                refine lv_iload_n hx hb dX6_begin_27 rfl (lv_at hl 0 rfl) ?_
                                                                                                refine lv_lconst (v := 0) hx hb dX6_begin_28 (by decide) ?_
                                                                                                refine va_last hx hb hK hP hD hS 1 0 rfl rfl (by unfold vp_in; decide) dX6_begin_29 (fun H locs hP hD hS => ?_)
                                                                                                obtain ⟨fz94, hP, hD⟩ : ∃ fz94 : Nat → Int64, va_P (dC, dI) vwCl [(h0, .inr (6, [.ref b0, .int 1, .int p1, .int p2])), (b0, .inl (k0, 60, .inr (.inl fz94)))] H ∧ va_D A [(h0, .inr (6, [.ref b0, .int 1, .int p1, .int p2])), (b0, .inl (k0, 60, .inr (.inl fz94)))] := ⟨_, hP, hD⟩
                                                                                                refine lv_iinc (v := 47) (lv' := [(3, .int 47), (0, .ref h0), (1, .int p1), (2, .int p2)]) hx hb dX6_begin_30 hl (k := 0) rfl (by decide) (by decide) rfl (fun ls hl => ?_)
                                                                                                refine lv_goto (tgt := 17) hx hb dX6_begin_33 (by decide) ?_
                                                                                                refine lv_iload_n hx hb dX6_begin_17 rfl (lv_at hl 0 rfl) ?_
                                                                                                refine lv_bipush (v := 60) hx hb dX6_begin_18 (by decide) ?_
                                                                                                refine lv_icmp_ge (tgt := 36) hx hb dX6_begin_20 (by decide) (fun cz95 => ?_) (fun cz95 => ?_)
                                                                                                · skip
                                                                                                  exact absurd cz95 (by decide)
                                                                                                · skip
                                                                                                  refine lv_aload_n hx hb dX6_begin_23 rfl (lv_at hl 1 rfl) ?_
                                                                                                  refine va_get (D := (dC, dI)) (ci := 6) (v := .ref b0) (C := RX6) (T := TX6) (N := 4) hx hb hts (fun w h => List.mem_cons_of_mem _ (List.mem_append_right _ (List.mem_append_left _ h))) hown hK hP 0 rfl rfl 0 (by decide) (hts (.fieldLink RX6 9 "SagMemory$Slot" "numbers" "[J") (wl_mem 3 rfl)) (fun _ h9 => h9) rfl dX6_begin_24 ?_
                                                                                                  refine lv_iload_n hx hb dX6_begin_27 rfl (lv_at hl 0 rfl) ?_
                                                                                                  refine lv_lconst (v := 0) hx hb dX6_begin_28 (by decide) ?_
                                                                                                  refine va_last hx hb hK hP hD hS 1 0 rfl rfl (by unfold vp_in; decide) dX6_begin_29 (fun H locs hP hD hS => ?_)
                                                                                                  obtain ⟨fz96, hP, hD⟩ : ∃ fz96 : Nat → Int64, va_P (dC, dI) vwCl [(h0, .inr (6, [.ref b0, .int 1, .int p1, .int p2])), (b0, .inl (k0, 60, .inr (.inl fz96)))] H ∧ va_D A [(h0, .inr (6, [.ref b0, .int 1, .int p1, .int p2])), (b0, .inl (k0, 60, .inr (.inl fz96)))] := ⟨_, hP, hD⟩
                                                                                                  refine lv_iinc (v := 48) (lv' := [(3, .int 48), (0, .ref h0), (1, .int p1), (2, .int p2)]) hx hb dX6_begin_30 hl (k := 0) rfl (by decide) (by decide) rfl (fun ls hl => ?_)
                                                                                                  refine lv_goto (tgt := 17) hx hb dX6_begin_33 (by decide) ?_
                                                                                                  refine lv_iload_n hx hb dX6_begin_17 rfl (lv_at hl 0 rfl) ?_
                                                                                                  refine lv_bipush (v := 60) hx hb dX6_begin_18 (by decide) ?_
                                                                                                  refine lv_icmp_ge (tgt := 36) hx hb dX6_begin_20 (by decide) (fun cz97 => ?_) (fun cz97 => ?_)
                                                                                                  · skip
                                                                                                    exact absurd cz97 (by decide)
                                                                                                  · skip
                                                                                                    refine lv_aload_n hx hb dX6_begin_23 rfl (lv_at hl 1 rfl) ?_
                                                                                                    refine va_get (D := (dC, dI)) (ci := 6) (v := .ref b0) (C := RX6) (T := TX6) (N := 4) hx hb hts (fun w h => List.mem_cons_of_mem _ (List.mem_append_right _ (List.mem_append_left _ h))) hown hK hP 0 rfl rfl 0 (by decide) (hts (.fieldLink RX6 9 "SagMemory$Slot" "numbers" "[J") (wl_mem 3 rfl)) (fun _ h9 => h9) rfl dX6_begin_24 ?_
                                                                                                    refine lv_iload_n hx hb dX6_begin_27 rfl (lv_at hl 0 rfl) ?_
                                                                                                    refine lv_lconst (v := 0) hx hb dX6_begin_28 (by decide) ?_
                                                                                                    refine va_last hx hb hK hP hD hS 1 0 rfl rfl (by unfold vp_in; decide) dX6_begin_29 (fun H locs hP hD hS => ?_)
                                                                                                    obtain ⟨fz98, hP, hD⟩ : ∃ fz98 : Nat → Int64, va_P (dC, dI) vwCl [(h0, .inr (6, [.ref b0, .int 1, .int p1, .int p2])), (b0, .inl (k0, 60, .inr (.inl fz98)))] H ∧ va_D A [(h0, .inr (6, [.ref b0, .int 1, .int p1, .int p2])), (b0, .inl (k0, 60, .inr (.inl fz98)))] := ⟨_, hP, hD⟩
                                                                                                    refine lv_iinc (v := 49) (lv' := [(3, .int 49), (0, .ref h0), (1, .int p1), (2, .int p2)]) hx hb dX6_begin_30 hl (k := 0) rfl (by decide) (by decide) rfl (fun ls hl => ?_)
                                                                                                    refine lv_goto (tgt := 17) hx hb dX6_begin_33 (by decide) ?_
                                                                                                    refine lv_iload_n hx hb dX6_begin_17 rfl (lv_at hl 0 rfl) ?_
                                                                                                    refine lv_bipush (v := 60) hx hb dX6_begin_18 (by decide) ?_
                                                                                                    refine lv_icmp_ge (tgt := 36) hx hb dX6_begin_20 (by decide) (fun cz99 => ?_) (fun cz99 => ?_)
                                                                                                    · skip
                                                                                                      exact absurd cz99 (by decide)
                                                                                                    · skip
                                                                                                      refine lv_aload_n hx hb dX6_begin_23 rfl (lv_at hl 1 rfl) ?_
                                                                                                      refine va_get (D := (dC, dI)) (ci := 6) (v := .ref b0) (C := RX6) (T := TX6) (N := 4) hx hb hts (fun w h => List.mem_cons_of_mem _ (List.mem_append_right _ (List.mem_append_left _ h))) hown hK hP 0 rfl rfl 0 (by decide) (hts (.fieldLink RX6 9 "SagMemory$Slot" "numbers" "[J") (wl_mem 3 rfl)) (fun _ h9 => h9) rfl dX6_begin_24 ?_
                                                                                                      refine lv_iload_n hx hb dX6_begin_27 rfl (lv_at hl 0 rfl) ?_
                                                                                                      refine lv_lconst (v := 0) hx hb dX6_begin_28 (by decide) ?_
                                                                                                      refine va_last hx hb hK hP hD hS 1 0 rfl rfl (by unfold vp_in; decide) dX6_begin_29 (fun H locs hP hD hS => ?_)
                                                                                                      obtain ⟨fz100, hP, hD⟩ : ∃ fz100 : Nat → Int64, va_P (dC, dI) vwCl [(h0, .inr (6, [.ref b0, .int 1, .int p1, .int p2])), (b0, .inl (k0, 60, .inr (.inl fz100)))] H ∧ va_D A [(h0, .inr (6, [.ref b0, .int 1, .int p1, .int p2])), (b0, .inl (k0, 60, .inr (.inl fz100)))] := ⟨_, hP, hD⟩
                                                                                                      refine lv_iinc (v := 50) (lv' := [(3, .int 50), (0, .ref h0), (1, .int p1), (2, .int p2)]) hx hb dX6_begin_30 hl (k := 0) rfl (by decide) (by decide) rfl (fun ls hl => ?_)
                                                                                                      refine lv_goto (tgt := 17) hx hb dX6_begin_33 (by decide) ?_
                                                                                                      refine lv_iload_n hx hb dX6_begin_17 rfl (lv_at hl 0 rfl) ?_
                                                                                                      refine lv_bipush (v := 60) hx hb dX6_begin_18 (by decide) ?_
                                                                                                      refine lv_icmp_ge (tgt := 36) hx hb dX6_begin_20 (by decide) (fun cz101 => ?_) (fun cz101 => ?_)
                                                                                                      · skip
                                                                                                        exact absurd cz101 (by decide)
                                                                                                      · skip
                                                                                                        refine lv_aload_n hx hb dX6_begin_23 rfl (lv_at hl 1 rfl) ?_
                                                                                                        refine va_get (D := (dC, dI)) (ci := 6) (v := .ref b0) (C := RX6) (T := TX6) (N := 4) hx hb hts (fun w h => List.mem_cons_of_mem _ (List.mem_append_right _ (List.mem_append_left _ h))) hown hK hP 0 rfl rfl 0 (by decide) (hts (.fieldLink RX6 9 "SagMemory$Slot" "numbers" "[J") (wl_mem 3 rfl)) (fun _ h9 => h9) rfl dX6_begin_24 ?_
                                                                                                        refine lv_iload_n hx hb dX6_begin_27 rfl (lv_at hl 0 rfl) ?_
                                                                                                        refine lv_lconst (v := 0) hx hb dX6_begin_28 (by decide) ?_
                                                                                                        refine va_last hx hb hK hP hD hS 1 0 rfl rfl (by unfold vp_in; decide) dX6_begin_29 (fun H locs hP hD hS => ?_)
                                                                                                        obtain ⟨fz102, hP, hD⟩ : ∃ fz102 : Nat → Int64, va_P (dC, dI) vwCl [(h0, .inr (6, [.ref b0, .int 1, .int p1, .int p2])), (b0, .inl (k0, 60, .inr (.inl fz102)))] H ∧ va_D A [(h0, .inr (6, [.ref b0, .int 1, .int p1, .int p2])), (b0, .inl (k0, 60, .inr (.inl fz102)))] := ⟨_, hP, hD⟩
                                                                                                        refine lv_iinc (v := 51) (lv' := [(3, .int 51), (0, .ref h0), (1, .int p1), (2, .int p2)]) hx hb dX6_begin_30 hl (k := 0) rfl (by decide) (by decide) rfl (fun ls hl => ?_)
                                                                                                        refine lv_goto (tgt := 17) hx hb dX6_begin_33 (by decide) ?_
                                                                                                        refine lv_iload_n hx hb dX6_begin_17 rfl (lv_at hl 0 rfl) ?_
                                                                                                        refine lv_bipush (v := 60) hx hb dX6_begin_18 (by decide) ?_
                                                                                                        refine lv_icmp_ge (tgt := 36) hx hb dX6_begin_20 (by decide) (fun cz103 => ?_) (fun cz103 => ?_)
                                                                                                        · skip
                                                                                                          exact absurd cz103 (by decide)
                                                                                                        · skip
                                                                                                          refine lv_aload_n hx hb dX6_begin_23 rfl (lv_at hl 1 rfl) ?_
                                                                                                          refine va_get (D := (dC, dI)) (ci := 6) (v := .ref b0) (C := RX6) (T := TX6) (N := 4) hx hb hts (fun w h => List.mem_cons_of_mem _ (List.mem_append_right _ (List.mem_append_left _ h))) hown hK hP 0 rfl rfl 0 (by decide) (hts (.fieldLink RX6 9 "SagMemory$Slot" "numbers" "[J") (wl_mem 3 rfl)) (fun _ h9 => h9) rfl dX6_begin_24 ?_
                                                                                                          refine lv_iload_n hx hb dX6_begin_27 rfl (lv_at hl 0 rfl) ?_
                                                                                                          refine lv_lconst (v := 0) hx hb dX6_begin_28 (by decide) ?_
                                                                                                          refine va_last hx hb hK hP hD hS 1 0 rfl rfl (by unfold vp_in; decide) dX6_begin_29 (fun H locs hP hD hS => ?_)
                                                                                                          obtain ⟨fz104, hP, hD⟩ : ∃ fz104 : Nat → Int64, va_P (dC, dI) vwCl [(h0, .inr (6, [.ref b0, .int 1, .int p1, .int p2])), (b0, .inl (k0, 60, .inr (.inl fz104)))] H ∧ va_D A [(h0, .inr (6, [.ref b0, .int 1, .int p1, .int p2])), (b0, .inl (k0, 60, .inr (.inl fz104)))] := ⟨_, hP, hD⟩
                                                                                                          refine lv_iinc (v := 52) (lv' := [(3, .int 52), (0, .ref h0), (1, .int p1), (2, .int p2)]) hx hb dX6_begin_30 hl (k := 0) rfl (by decide) (by decide) rfl (fun ls hl => ?_)
                                                                                                          refine lv_goto (tgt := 17) hx hb dX6_begin_33 (by decide) ?_
                                                                                                          refine lv_iload_n hx hb dX6_begin_17 rfl (lv_at hl 0 rfl) ?_
                                                                                                          refine lv_bipush (v := 60) hx hb dX6_begin_18 (by decide) ?_
                                                                                                          refine lv_icmp_ge (tgt := 36) hx hb dX6_begin_20 (by decide) (fun cz105 => ?_) (fun cz105 => ?_)
                                                                                                          · skip
                                                                                                            exact absurd cz105 (by decide)
                                                                                                          · skip
                                                                                                            refine lv_aload_n hx hb dX6_begin_23 rfl (lv_at hl 1 rfl) ?_
                                                                                                            refine va_get (D := (dC, dI)) (ci := 6) (v := .ref b0) (C := RX6) (T := TX6) (N := 4) hx hb hts (fun w h => List.mem_cons_of_mem _ (List.mem_append_right _ (List.mem_append_left _ h))) hown hK hP 0 rfl rfl 0 (by decide) (hts (.fieldLink RX6 9 "SagMemory$Slot" "numbers" "[J") (wl_mem 3 rfl)) (fun _ h9 => h9) rfl dX6_begin_24 ?_
                                                                                                            refine lv_iload_n hx hb dX6_begin_27 rfl (lv_at hl 0 rfl) ?_
                                                                                                            refine lv_lconst (v := 0) hx hb dX6_begin_28 (by decide) ?_
                                                                                                            refine va_last hx hb hK hP hD hS 1 0 rfl rfl (by unfold vp_in; decide) dX6_begin_29 (fun H locs hP hD hS => ?_)
                                                                                                            obtain ⟨fz106, hP, hD⟩ : ∃ fz106 : Nat → Int64, va_P (dC, dI) vwCl [(h0, .inr (6, [.ref b0, .int 1, .int p1, .int p2])), (b0, .inl (k0, 60, .inr (.inl fz106)))] H ∧ va_D A [(h0, .inr (6, [.ref b0, .int 1, .int p1, .int p2])), (b0, .inl (k0, 60, .inr (.inl fz106)))] := ⟨_, hP, hD⟩
                                                                                                            refine lv_iinc (v := 53) (lv' := [(3, .int 53), (0, .ref h0), (1, .int p1), (2, .int p2)]) hx hb dX6_begin_30 hl (k := 0) rfl (by decide) (by decide) rfl (fun ls hl => ?_)
                                                                                                            refine lv_goto (tgt := 17) hx hb dX6_begin_33 (by decide) ?_
                                                                                                            refine lv_iload_n hx hb dX6_begin_17 rfl (lv_at hl 0 rfl) ?_
                                                                                                            refine lv_bipush (v := 60) hx hb dX6_begin_18 (by decide) ?_
                                                                                                            refine lv_icmp_ge (tgt := 36) hx hb dX6_begin_20 (by decide) (fun cz107 => ?_) (fun cz107 => ?_)
                                                                                                            · skip
                                                                                                              exact absurd cz107 (by decide)
                                                                                                            · skip
                                                                                                              refine lv_aload_n hx hb dX6_begin_23 rfl (lv_at hl 1 rfl) ?_
                                                                                                              refine va_get (D := (dC, dI)) (ci := 6) (v := .ref b0) (C := RX6) (T := TX6) (N := 4) hx hb hts (fun w h => List.mem_cons_of_mem _ (List.mem_append_right _ (List.mem_append_left _ h))) hown hK hP 0 rfl rfl 0 (by decide) (hts (.fieldLink RX6 9 "SagMemory$Slot" "numbers" "[J") (wl_mem 3 rfl)) (fun _ h9 => h9) rfl dX6_begin_24 ?_
                                                                                                              refine lv_iload_n hx hb dX6_begin_27 rfl (lv_at hl 0 rfl) ?_
                                                                                                              refine lv_lconst (v := 0) hx hb dX6_begin_28 (by decide) ?_
                                                                                                              refine va_last hx hb hK hP hD hS 1 0 rfl rfl (by unfold vp_in; decide) dX6_begin_29 (fun H locs hP hD hS => ?_)
                                                                                                              obtain ⟨fz108, hP, hD⟩ : ∃ fz108 : Nat → Int64, va_P (dC, dI) vwCl [(h0, .inr (6, [.ref b0, .int 1, .int p1, .int p2])), (b0, .inl (k0, 60, .inr (.inl fz108)))] H ∧ va_D A [(h0, .inr (6, [.ref b0, .int 1, .int p1, .int p2])), (b0, .inl (k0, 60, .inr (.inl fz108)))] := ⟨_, hP, hD⟩
                                                                                                              refine lv_iinc (v := 54) (lv' := [(3, .int 54), (0, .ref h0), (1, .int p1), (2, .int p2)]) hx hb dX6_begin_30 hl (k := 0) rfl (by decide) (by decide) rfl (fun ls hl => ?_)
                                                                                                              refine lv_goto (tgt := 17) hx hb dX6_begin_33 (by decide) ?_
                                                                                                              refine lv_iload_n hx hb dX6_begin_17 rfl (lv_at hl 0 rfl) ?_
                                                                                                              refine lv_bipush (v := 60) hx hb dX6_begin_18 (by decide) ?_
                                                                                                              refine lv_icmp_ge (tgt := 36) hx hb dX6_begin_20 (by decide) (fun cz109 => ?_) (fun cz109 => ?_)
                                                                                                              · skip
                                                                                                                exact absurd cz109 (by decide)
                                                                                                              · skip
                                                                                                                refine lv_aload_n hx hb dX6_begin_23 rfl (lv_at hl 1 rfl) ?_
                                                                                                                refine va_get (D := (dC, dI)) (ci := 6) (v := .ref b0) (C := RX6) (T := TX6) (N := 4) hx hb hts (fun w h => List.mem_cons_of_mem _ (List.mem_append_right _ (List.mem_append_left _ h))) hown hK hP 0 rfl rfl 0 (by decide) (hts (.fieldLink RX6 9 "SagMemory$Slot" "numbers" "[J") (wl_mem 3 rfl)) (fun _ h9 => h9) rfl dX6_begin_24 ?_
                                                                                                                refine lv_iload_n hx hb dX6_begin_27 rfl (lv_at hl 0 rfl) ?_
                                                                                                                refine lv_lconst (v := 0) hx hb dX6_begin_28 (by decide) ?_
                                                                                                                refine va_last hx hb hK hP hD hS 1 0 rfl rfl (by unfold vp_in; decide) dX6_begin_29 (fun H locs hP hD hS => ?_)
                                                                                                                obtain ⟨fz110, hP, hD⟩ : ∃ fz110 : Nat → Int64, va_P (dC, dI) vwCl [(h0, .inr (6, [.ref b0, .int 1, .int p1, .int p2])), (b0, .inl (k0, 60, .inr (.inl fz110)))] H ∧ va_D A [(h0, .inr (6, [.ref b0, .int 1, .int p1, .int p2])), (b0, .inl (k0, 60, .inr (.inl fz110)))] := ⟨_, hP, hD⟩
                                                                                                                refine lv_iinc (v := 55) (lv' := [(3, .int 55), (0, .ref h0), (1, .int p1), (2, .int p2)]) hx hb dX6_begin_30 hl (k := 0) rfl (by decide) (by decide) rfl (fun ls hl => ?_)
                                                                                                                refine lv_goto (tgt := 17) hx hb dX6_begin_33 (by decide) ?_
                                                                                                                refine lv_iload_n hx hb dX6_begin_17 rfl (lv_at hl 0 rfl) ?_
                                                                                                                refine lv_bipush (v := 60) hx hb dX6_begin_18 (by decide) ?_
                                                                                                                refine lv_icmp_ge (tgt := 36) hx hb dX6_begin_20 (by decide) (fun cz111 => ?_) (fun cz111 => ?_)
                                                                                                                · skip
                                                                                                                  exact absurd cz111 (by decide)
                                                                                                                · skip
                                                                                                                  refine lv_aload_n hx hb dX6_begin_23 rfl (lv_at hl 1 rfl) ?_
                                                                                                                  refine va_get (D := (dC, dI)) (ci := 6) (v := .ref b0) (C := RX6) (T := TX6) (N := 4) hx hb hts (fun w h => List.mem_cons_of_mem _ (List.mem_append_right _ (List.mem_append_left _ h))) hown hK hP 0 rfl rfl 0 (by decide) (hts (.fieldLink RX6 9 "SagMemory$Slot" "numbers" "[J") (wl_mem 3 rfl)) (fun _ h9 => h9) rfl dX6_begin_24 ?_
                                                                                                                  refine lv_iload_n hx hb dX6_begin_27 rfl (lv_at hl 0 rfl) ?_
                                                                                                                  refine lv_lconst (v := 0) hx hb dX6_begin_28 (by decide) ?_
                                                                                                                  refine va_last hx hb hK hP hD hS 1 0 rfl rfl (by unfold vp_in; decide) dX6_begin_29 (fun H locs hP hD hS => ?_)
                                                                                                                  obtain ⟨fz112, hP, hD⟩ : ∃ fz112 : Nat → Int64, va_P (dC, dI) vwCl [(h0, .inr (6, [.ref b0, .int 1, .int p1, .int p2])), (b0, .inl (k0, 60, .inr (.inl fz112)))] H ∧ va_D A [(h0, .inr (6, [.ref b0, .int 1, .int p1, .int p2])), (b0, .inl (k0, 60, .inr (.inl fz112)))] := ⟨_, hP, hD⟩
                                                                                                                  refine lv_iinc (v := 56) (lv' := [(3, .int 56), (0, .ref h0), (1, .int p1), (2, .int p2)]) hx hb dX6_begin_30 hl (k := 0) rfl (by decide) (by decide) rfl (fun ls hl => ?_)
                                                                                                                  refine lv_goto (tgt := 17) hx hb dX6_begin_33 (by decide) ?_
                                                                                                                  refine lv_iload_n hx hb dX6_begin_17 rfl (lv_at hl 0 rfl) ?_
                                                                                                                  refine lv_bipush (v := 60) hx hb dX6_begin_18 (by decide) ?_
                                                                                                                  refine lv_icmp_ge (tgt := 36) hx hb dX6_begin_20 (by decide) (fun cz113 => ?_) (fun cz113 => ?_)
                                                                                                                  · skip
                                                                                                                    exact absurd cz113 (by decide)
                                                                                                                  · skip
                                                                                                                    refine lv_aload_n hx hb dX6_begin_23 rfl (lv_at hl 1 rfl) ?_
                                                                                                                    refine va_get (D := (dC, dI)) (ci := 6) (v := .ref b0) (C := RX6) (T := TX6) (N := 4) hx hb hts (fun w h => List.mem_cons_of_mem _ (List.mem_append_right _ (List.mem_append_left _ h))) hown hK hP 0 rfl rfl 0 (by decide) (hts (.fieldLink RX6 9 "SagMemory$Slot" "numbers" "[J") (wl_mem 3 rfl)) (fun _ h9 => h9) rfl dX6_begin_24 ?_
                                                                                                                    refine lv_iload_n hx hb dX6_begin_27 rfl (lv_at hl 0 rfl) ?_
                                                                                                                    refine lv_lconst (v := 0) hx hb dX6_begin_28 (by decide) ?_
                                                                                                                    refine va_last hx hb hK hP hD hS 1 0 rfl rfl (by unfold vp_in; decide) dX6_begin_29 (fun H locs hP hD hS => ?_)
                                                                                                                    obtain ⟨fz114, hP, hD⟩ : ∃ fz114 : Nat → Int64, va_P (dC, dI) vwCl [(h0, .inr (6, [.ref b0, .int 1, .int p1, .int p2])), (b0, .inl (k0, 60, .inr (.inl fz114)))] H ∧ va_D A [(h0, .inr (6, [.ref b0, .int 1, .int p1, .int p2])), (b0, .inl (k0, 60, .inr (.inl fz114)))] := ⟨_, hP, hD⟩
                                                                                                                    refine lv_iinc (v := 57) (lv' := [(3, .int 57), (0, .ref h0), (1, .int p1), (2, .int p2)]) hx hb dX6_begin_30 hl (k := 0) rfl (by decide) (by decide) rfl (fun ls hl => ?_)
                                                                                                                    refine lv_goto (tgt := 17) hx hb dX6_begin_33 (by decide) ?_
                                                                                                                    refine lv_iload_n hx hb dX6_begin_17 rfl (lv_at hl 0 rfl) ?_
                                                                                                                    refine lv_bipush (v := 60) hx hb dX6_begin_18 (by decide) ?_
                                                                                                                    refine lv_icmp_ge (tgt := 36) hx hb dX6_begin_20 (by decide) (fun cz115 => ?_) (fun cz115 => ?_)
                                                                                                                    · skip
                                                                                                                      exact absurd cz115 (by decide)
                                                                                                                    · skip
                                                                                                                      refine lv_aload_n hx hb dX6_begin_23 rfl (lv_at hl 1 rfl) ?_
                                                                                                                      refine va_get (D := (dC, dI)) (ci := 6) (v := .ref b0) (C := RX6) (T := TX6) (N := 4) hx hb hts (fun w h => List.mem_cons_of_mem _ (List.mem_append_right _ (List.mem_append_left _ h))) hown hK hP 0 rfl rfl 0 (by decide) (hts (.fieldLink RX6 9 "SagMemory$Slot" "numbers" "[J") (wl_mem 3 rfl)) (fun _ h9 => h9) rfl dX6_begin_24 ?_
                                                                                                                      refine lv_iload_n hx hb dX6_begin_27 rfl (lv_at hl 0 rfl) ?_
                                                                                                                      refine lv_lconst (v := 0) hx hb dX6_begin_28 (by decide) ?_
                                                                                                                      refine va_last hx hb hK hP hD hS 1 0 rfl rfl (by unfold vp_in; decide) dX6_begin_29 (fun H locs hP hD hS => ?_)
                                                                                                                      obtain ⟨fz116, hP, hD⟩ : ∃ fz116 : Nat → Int64, va_P (dC, dI) vwCl [(h0, .inr (6, [.ref b0, .int 1, .int p1, .int p2])), (b0, .inl (k0, 60, .inr (.inl fz116)))] H ∧ va_D A [(h0, .inr (6, [.ref b0, .int 1, .int p1, .int p2])), (b0, .inl (k0, 60, .inr (.inl fz116)))] := ⟨_, hP, hD⟩
                                                                                                                      refine lv_iinc (v := 58) (lv' := [(3, .int 58), (0, .ref h0), (1, .int p1), (2, .int p2)]) hx hb dX6_begin_30 hl (k := 0) rfl (by decide) (by decide) rfl (fun ls hl => ?_)
                                                                                                                      refine lv_goto (tgt := 17) hx hb dX6_begin_33 (by decide) ?_
                                                                                                                      refine lv_iload_n hx hb dX6_begin_17 rfl (lv_at hl 0 rfl) ?_
                                                                                                                      refine lv_bipush (v := 60) hx hb dX6_begin_18 (by decide) ?_
                                                                                                                      refine lv_icmp_ge (tgt := 36) hx hb dX6_begin_20 (by decide) (fun cz117 => ?_) (fun cz117 => ?_)
                                                                                                                      · skip
                                                                                                                        exact absurd cz117 (by decide)
                                                                                                                      · skip
                                                                                                                        refine lv_aload_n hx hb dX6_begin_23 rfl (lv_at hl 1 rfl) ?_
                                                                                                                        refine va_get (D := (dC, dI)) (ci := 6) (v := .ref b0) (C := RX6) (T := TX6) (N := 4) hx hb hts (fun w h => List.mem_cons_of_mem _ (List.mem_append_right _ (List.mem_append_left _ h))) hown hK hP 0 rfl rfl 0 (by decide) (hts (.fieldLink RX6 9 "SagMemory$Slot" "numbers" "[J") (wl_mem 3 rfl)) (fun _ h9 => h9) rfl dX6_begin_24 ?_
                                                                                                                        refine lv_iload_n hx hb dX6_begin_27 rfl (lv_at hl 0 rfl) ?_
                                                                                                                        refine lv_lconst (v := 0) hx hb dX6_begin_28 (by decide) ?_
                                                                                                                        refine va_last hx hb hK hP hD hS 1 0 rfl rfl (by unfold vp_in; decide) dX6_begin_29 (fun H locs hP hD hS => ?_)
                                                                                                                        obtain ⟨fz118, hP, hD⟩ : ∃ fz118 : Nat → Int64, va_P (dC, dI) vwCl [(h0, .inr (6, [.ref b0, .int 1, .int p1, .int p2])), (b0, .inl (k0, 60, .inr (.inl fz118)))] H ∧ va_D A [(h0, .inr (6, [.ref b0, .int 1, .int p1, .int p2])), (b0, .inl (k0, 60, .inr (.inl fz118)))] := ⟨_, hP, hD⟩
                                                                                                                        refine lv_iinc (v := 59) (lv' := [(3, .int 59), (0, .ref h0), (1, .int p1), (2, .int p2)]) hx hb dX6_begin_30 hl (k := 0) rfl (by decide) (by decide) rfl (fun ls hl => ?_)
                                                                                                                        refine lv_goto (tgt := 17) hx hb dX6_begin_33 (by decide) ?_
                                                                                                                        refine lv_iload_n hx hb dX6_begin_17 rfl (lv_at hl 0 rfl) ?_
                                                                                                                        refine lv_bipush (v := 60) hx hb dX6_begin_18 (by decide) ?_
                                                                                                                        refine lv_icmp_ge (tgt := 36) hx hb dX6_begin_20 (by decide) (fun cz119 => ?_) (fun cz119 => ?_)
                                                                                                                        · skip
                                                                                                                          exact absurd cz119 (by decide)
                                                                                                                        · skip
                                                                                                                          refine lv_aload_n hx hb dX6_begin_23 rfl (lv_at hl 1 rfl) ?_
                                                                                                                          refine va_get (D := (dC, dI)) (ci := 6) (v := .ref b0) (C := RX6) (T := TX6) (N := 4) hx hb hts (fun w h => List.mem_cons_of_mem _ (List.mem_append_right _ (List.mem_append_left _ h))) hown hK hP 0 rfl rfl 0 (by decide) (hts (.fieldLink RX6 9 "SagMemory$Slot" "numbers" "[J") (wl_mem 3 rfl)) (fun _ h9 => h9) rfl dX6_begin_24 ?_
                                                                                                                          refine lv_iload_n hx hb dX6_begin_27 rfl (lv_at hl 0 rfl) ?_
                                                                                                                          refine lv_lconst (v := 0) hx hb dX6_begin_28 (by decide) ?_
                                                                                                                          refine va_last hx hb hK hP hD hS 1 0 rfl rfl (by unfold vp_in; decide) dX6_begin_29 (fun H locs hP hD hS => ?_)
                                                                                                                          obtain ⟨fz120, hP, hD⟩ : ∃ fz120 : Nat → Int64, va_P (dC, dI) vwCl [(h0, .inr (6, [.ref b0, .int 1, .int p1, .int p2])), (b0, .inl (k0, 60, .inr (.inl fz120)))] H ∧ va_D A [(h0, .inr (6, [.ref b0, .int 1, .int p1, .int p2])), (b0, .inl (k0, 60, .inr (.inl fz120)))] := ⟨_, hP, hD⟩
                                                                                                                          refine lv_iinc (v := 60) (lv' := [(3, .int 60), (0, .ref h0), (1, .int p1), (2, .int p2)]) hx hb dX6_begin_30 hl (k := 0) rfl (by decide) (by decide) rfl (fun ls hl => ?_)
                                                                                                                          refine lv_goto (tgt := 17) hx hb dX6_begin_33 (by decide) ?_
                                                                                                                          refine lv_iload_n hx hb dX6_begin_17 rfl (lv_at hl 0 rfl) ?_
                                                                                                                          refine lv_bipush (v := 60) hx hb dX6_begin_18 (by decide) ?_
                                                                                                                          refine lv_icmp_ge (tgt := 36) hx hb dX6_begin_20 (by decide) (fun cz121 => ?_) (fun cz121 => ?_)
                                                                                                                          · skip
                                                                                                                            exact W.vret hx hb hr (fun t ht hW => ⟨⟨(), rfl, trivial, trivial⟩, hS.F ht⟩) hS.2.2 dX6_begin_36
                                                                                                                          · skip
                                                                                                                            exact absurd cz121 (by decide)
def wk_f_X11_row : List Cond := .code yX11_row cX11_row 4 (some .int) :: ([.methodLink RX11 380 yX11_hasSlot, .static yX11_hasSlot, .initialized RX11, .fieldLink RX11 85 "SagMemory" "slots" "[LSagMemory$Slot;", .methodLink RX11 383 yX6_begin, .instanceMethod yX6_begin, .selects RX6 yX6_begin yX6_begin, .initialized RX6] ++ (wk_f_X11_hasSlot ++ (wsX110 ++ (wk_f_X6_begin ++ []))))
theorem wkg_f_X11_row : wk_f_X11_row.all goodWord = true := by decide +kernel
