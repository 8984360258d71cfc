def wk_c_X11_feed : List Cond := .code yX11_feed cX11_feed 6 (some .int) :: ([.fieldLink RX11 10 "SagMemory" "tape" "LSagMemory$Tape;", .fieldLink RX11 97 "SagMemory$Tape" "length" "I", .methodLink RX11 101 yX9_put, .instanceMethod yX9_put, .selects RX9 yX9_put yX9_put, .initialized RX9] ++ (wsX110 ++ (wsX90 ++ (wk_c_X9_put ++ []))))
theorem wkg_c_X11_feed : wk_c_X11_feed.all goodWord = true := by decide +kernel
set_option maxHeartbeats 4000000 in
set_option maxRecDepth 100000 in
theorem c_X11_feed (l : Launch) (dC : Nat → ClassId) (dI : Nat → Nat → Nat) (k : Nat → ClassId) (sz : Nat) (qX : Nat → Nat) (toldX : Nat) (actsX : Nat) (nowX : Nat) (trialX : Nat) (storyX : Nat) (attemptX : Nat) (orderSearchX : Nat) (routeSearchX : Nat) (setSearchX : Nat) (probeX : Nat) (slot0X : Nat) (slot1X : Nat) (slot2X : Nat) (slot3X : Nat) (image0X : Nat) (image1X : Nat) (image2X : Nat) (aX : Nat → Nat → Int32) (qT : Nat → Nat) (readT : Nat) (vT : Nat → Int32) (tT : Nat → Int32) (aT : Nat → Nat → Int32) (p1 : Int32) (p2 : Int32) (p3 : Int32) (p4 : Int32) (p5 : Int32) (htT : Rg 0 700 tT) : Met l yX11_feed wk_c_X11_feed ({ frames := 1, cells := 0, slots := 0, locals := 22 }) (va_Pc [.ref (qX 0), .int p1, .int p2, .int p3, .int p4, .int p5] (fun U => U.heap.size = sz ∧ va_P (dC, dI) vwCl (List.flatten [(wTape qT k readT vT tT aT)] ++ List.flatten [(wSag qX k (qT 0) toldX actsX nowX trialX storyX attemptX orderSearchX routeSearchX setSearchX probeX slot0X slot1X slot2X slot3X image0X image1X image2X aX)]) U.heap ∧ va_K (dC, dI) vwCl (tK k) U ∧ va_D (fun _ => True) (List.flatten [(wTape qT k readT vT tT aT)] ++ List.flatten [(wSag qX k (qT 0) toldX actsX nowX trialX storyX attemptX orderSearchX routeSearchX setSearchX probeX slot0X slot1X slot2X slot3X image0X image1X image2X aX)]))) (va_Qi (fun (r : Int32) (_ : Unit) => True) (fun (_ : Unit) (t : State) => ∃ (vT' : Nat → Int32) (tT' : Nat → Int32) (aT' : Nat → Nat → Int32), Rg 0 700 tT' ∧ va_P (dC, dI) vwCl (List.flatten [(wTape qT k readT vT' tT' aT')] ++ List.flatten [(wSag qX k (qT 0) toldX actsX nowX trialX storyX attemptX orderSearchX routeSearchX setSearchX probeX slot0X slot1X slot2X slot3X image0X image1X image2X aX)]) t.heap) (va_A (List.flatten [(wTape qT k readT vT tT aT)] ++ List.flatten [(wSag qX k (qT 0) toldX actsX nowX trialX storyX attemptX orderSearchX routeSearchX setSearchX probeX slot0X slot1X slot2X slot3X image0X image1X image2X aX)]) sz)) 0 0 (va_A (List.flatten [(wTape qT k readT vT tT aT)] ++ List.flatten [(wSag qX k (qT 0) toldX actsX nowX trialX storyX attemptX orderSearchX routeSearchX setSearchX probeX slot0X slot1X slot2X slot3X image0X image1X image2X aX)]) sz) := by
  refine Met.ofW (cc := cX11_feed) (maxL := 6) (ret := (some .int)) (by decide) rfl ?_
  intro p e s m args below meth c s₁ B hml hv
  obtain ⟨rfl, hsz, hP, hK, hD0⟩ := hv
  have hx := B.exec
  have hb := B.bytes
  have hr := B.returns
  have hts := atoms_spec (ws := wk_c_X11_feed) B.pre
  have hown : s.vm.findClass RX11 = some m.cls := findClass_of_methodNamed B.named
  have hlocks := B.notSynchronized
  subst hsz
  have hD := hD0.self (sz := s.heap.size)
  generalize hAe : va_A (List.flatten [(wTape qT k readT vT tT aT)] ++ List.flatten [(wSag qX k (qT 0) toldX actsX nowX trialX storyX attemptX orderSearchX routeSearchX setSearchX probeX slot0X slot1X slot2X slot3X image0X image1X image2X aX)]) s.heap.size = A at hD ⊢
  have hA : ∀ q : Nat, s.heap.size ≤ q → A q := fun q h => by rw [← hAe]; exact Or.inr h
  have hS : va_S A s.heap s.heap [] := va_S.rf
  have hP : va_P (dC, dI) vwCl (List.flatten [(wTape qT k readT vT tT aT)] ++ List.flatten [(wSag qX k (qT 0) toldX actsX nowX trialX storyX attemptX orderSearchX routeSearchX setSearchX probeX slot0X slot1X slot2X slot3X image0X image1X image2X aX)]) s.heap := hP
  have hl := lv_entry ([.ref (qX 0), .int p1, .int p2, .int p3, .int p4, .int p5]) (n := 6) (Nat.le_of_ble_eq_true rfl)
  rw [lg_entry_eq]
  generalize (lg_sl ([.ref (qX 0), .int p1, .int p2, .int p3, .int p4, .int p5]) ++ List.replicate (6 - (lg_sl ([.ref (qX 0), .int p1, .int p2, .int p3, .int p4, .int p5])).length) Slot.unset).toArray = ls at hl ⊢
  have hl : lv_has ls 6 [(0, .ref (qX 0)), (1, .int p1), (2, .int p2), (3, .int p3), (4, .int p4), (5, .int p5)] := hl
  refine w_gen (fun Q hQ => ?_)
  refine lv_aload_n hx hb dX11_feed_0 rfl (lv_at hl 0 rfl) ?_
  refine va_get (D := (dC, dI)) (ci := 11) (v := .ref (qT 0)) (C := RX11) (T := TX11) (N := 15) hx hb hts (fun w h => List.mem_cons_of_mem _ (List.mem_append_right _ (List.mem_append_left _ h))) hown hK hP 2 rfl rfl 0 (by decide) (hts (.fieldLink RX11 10 "SagMemory" "tape" "LSagMemory$Tape;") (wl_mem 0 rfl)) (fun _ h9 => h9) rfl dX11_feed_1 ?_
  refine va_get (D := (dC, dI)) (ci := 9) (v := .int (tT 0)) (C := RX9) (T := TX9) (N := 10) hx hb hts (fun w h => List.mem_cons_of_mem _ (List.mem_append_right _ (List.mem_append_right _ (List.mem_append_left _ h)))) hown hK hP 0 rfl rfl 2 (by decide) (hts (.fieldLink RX11 97 "SagMemory$Tape" "length" "I") (wl_mem 1 rfl)) (fun _ h9 => h9) rfl dX11_feed_4 ?_
  have bz1 := htT 0
  refine lv_bipush (v := 20) hx hb dX11_feed_7 (by decide) ?_
  refine lv_iadd hx hb dX11_feed_9 ?_
  refine lv_topi (fun xz2 exz2 => ?_)
  have fxz2 : xz2.toInt = (tT 0).toInt + (20 : Int) := by rw [exz2]; exact fb_addI (x := (tT 0)) (y := (20 : Int32)) (by show -2147483648 ≤ (tT 0).toInt + (20 : Int); omega) (by show (tT 0).toInt + (20 : Int) < 2147483648; omega)
  refine lv_sipush (v := 700) hx hb dX11_feed_10 (by decide) ?_
  refine lv_icmp_le (tgt := 18) hx hb dX11_feed_13 (by decide) (fun cz3 => ?_) (fun cz3 => ?_)
  · skip
    have zz4 : xz2.toInt ≤ (700 : Int) := zi_le.mp cz3
    refine lv_aload_n hx hb dX11_feed_18 rfl (lv_at hl 0 rfl) ?_
    refine va_get (D := (dC, dI)) (ci := 11) (v := .ref (qT 0)) (C := RX11) (T := TX11) (N := 15) hx hb hts (fun w h => List.mem_cons_of_mem _ (List.mem_append_right _ (List.mem_append_left _ h))) hown hK hP 2 rfl rfl 0 (by decide) (hts (.fieldLink RX11 10 "SagMemory" "tape" "LSagMemory$Tape;") (wl_mem 0 rfl)) (fun _ h9 => h9) rfl dX11_feed_19 ?_
    refine lv_iload_n hx hb dX11_feed_22 rfl (lv_at hl 1 rfl) ?_
    have hPc := hP.sub (ws' := (List.flatten [(wTape qT k readT vT tT aT)] ++ List.flatten ([] : List va_W))) [0, 1] rfl
    have hC : [0, 1].map (fun i => (List.flatten [(wTape qT k readT vT tT aT)] ++ List.flatten [(wSag qX k (qT 0) toldX actsX nowX trialX storyX attemptX orderSearchX routeSearchX setSearchX probeX slot0X slot1X slot2X slot3X image0X image1X image2X aX)])[i]?) = (List.flatten [(wTape qT k readT vT tT aT)] ++ List.flatten ([] : List va_W)).map some := rfl
    have hDc := hD.sub [0, 1] (by decide) hC
    have hFc := va_free hD hS hA [0, 1] hC
    refine va_callv (va_runV (As := [.int p1]) (rest := []) ⟨hx, hb, hml, hown, hts⟩ (c_X9_put l dC dI k s.heap.size qT readT vT tT aT p1 htT) (cwV 1 hts (gk_V (wl_mem 2 rfl) (wl_mem 3 rfl) (wl_mem 4 rfl) (wl_mem 5 rfl) (fun w h => List.mem_cons_of_mem _ (List.mem_append_right _ (List.mem_append_right _ (List.mem_append_right _ (List.mem_append_left _ h))))) wkg_c_X9_put) rfl rfl rfl (by decide +kernel) ⟨Nat.le_of_ble_eq_true rfl, Nat.le_of_ble_eq_true rfl⟩) ⟨fun a U g mk q => by obtain ⟨q0, q1, qP, qK, qD⟩ := q; exact ⟨q0, q1, qP, va_K.moved (u := U) (U := U.calling g mk a) (Vm.Alike.refl U.vm) qK, qD⟩, va_recv hK hPc (ci := 9) (q0 := 0) rfl rfl, fun U hU hW => ⟨rfl, by rw [hU], by rw [hU]; exact hPc, va_K.moved hW.alike hK, hDc.weaken (fun _ _ _ _ => trivial)⟩⟩ rfl rfl hl.1 rfl (lv_room (Nat.le_of_ble_eq_true rfl)) dX11_feed_23 ⟨Nat.le_of_ble_eq_true rfl, Nat.le_of_ble_eq_true rfl⟩) hS (fun q _ h => hFc q h) hFc (fun u t H1 locs ht hvm gz5 hB hz1 hk1 hS => ?_)
    obtain ⟨vz7, tz8, az9, htz8, hP1⟩ := hB
    rw [ht] at hP1
    obtain ⟨hP, hD⟩ := w_callR hP hD hk1 hP1 [0] rfl rfl (fun _ h => absurd h List.not_mem_nil) rfl [some 0] rfl rfl
    clear hPc hC hDc hFc hk1 hP1
    generalize H1 = H at hP hS ⊢
    have hP : va_P (dC, dI) vwCl (List.flatten [(wTape qT k readT vz7 tz8 az9)] ++ List.flatten [(wSag qX k (qT 0) toldX actsX nowX trialX storyX attemptX orderSearchX routeSearchX setSearchX probeX slot0X slot1X slot2X slot3X image0X image1X image2X aX)]) H := hP
    have hD : va_D A (List.flatten [(wTape qT k readT vz7 tz8 az9)] ++ List.flatten [(wSag qX k (qT 0) toldX actsX nowX trialX storyX attemptX orderSearchX routeSearchX setSearchX probeX slot0X slot1X slot2X slot3X image0X image1X image2X aX)]) := hD
    refine W.widen (k := 0) (n := 0) (Nat.le_refl 0) (Nat.le_refl 0) ?_
    refine lv_aload_n hx hb dX11_feed_26 rfl (lv_at hl 0 rfl) ?_
    refine va_get (D := (dC, dI)) (ci := 11) (v := .ref (qT 0)) (C := RX11) (T := TX11) (N := 15) hx hb hts (fun w h => List.mem_cons_of_mem _ (List.mem_append_right _ (List.mem_append_left _ h))) hown hK hP 2 rfl rfl 0 (by decide) (hts (.fieldLink RX11 10 "SagMemory" "tape" "LSagMemory$Tape;") (wl_mem 0 rfl)) (fun _ h9 => h9) rfl dX11_feed_27 ?_
    refine lv_iload_n hx hb dX11_feed_30 rfl (lv_at hl 2 rfl) ?_
    have hPc := hP.sub (ws' := (List.flatten [(wTape qT k readT vz7 tz8 az9)] ++ List.flatten ([] : List va_W))) [0, 1] rfl
    have hC : [0, 1].map (fun i => (List.flatten [(wTape qT k readT vz7 tz8 az9)] ++ List.flatten [(wSag qX k (qT 0) toldX actsX nowX trialX storyX attemptX orderSearchX routeSearchX setSearchX probeX slot0X slot1X slot2X slot3X image0X image1X image2X aX)])[i]?) = (List.flatten [(wTape qT k readT vz7 tz8 az9)] ++ List.flatten ([] : List va_W)).map some := rfl
    have hDc := hD.sub [0, 1] (by decide) hC
    have hFc := va_free hD hS hA [0, 1] hC
    refine va_callv (va_runV (As := [.int p2]) (rest := []) ⟨hx, hb, hml, hown, hts⟩ (c_X9_put l dC dI k H.size qT readT vz7 tz8 az9 p2 htz8) (cwV 1 hts (gk_V (wl_mem 2 rfl) (wl_mem 3 rfl) (wl_mem 4 rfl) (wl_mem 5 rfl) (fun w h => List.mem_cons_of_mem _ (List.mem_append_right _ (List.mem_append_right _ (List.mem_append_right _ (List.mem_append_left _ h))))) wkg_c_X9_put) rfl rfl rfl (by decide +kernel) ⟨Nat.le_of_ble_eq_true rfl, Nat.le_of_ble_eq_true rfl⟩) ⟨fun a U g mk q => by obtain ⟨q0, q1, qP, qK, qD⟩ := q; exact ⟨q0, q1, qP, va_K.moved (u := U) (U := U.calling g mk a) (Vm.Alike.refl U.vm) qK, qD⟩, va_recv hK hPc (ci := 9) (q0 := 0) rfl rfl, fun U hU hW => ⟨rfl, by rw [hU], by rw [hU]; exact hPc, va_K.moved hW.alike hK, hDc.weaken (fun _ _ _ _ => trivial)⟩⟩ rfl rfl hl.1 rfl (lv_room (Nat.le_of_ble_eq_true rfl)) dX11_feed_31 ⟨Nat.le_of_ble_eq_true rfl, Nat.le_of_ble_eq_true rfl⟩) hS (fun q _ h => hFc q h) hFc (fun u t H1 locs ht hvm gz10 hB hz1 hk1 hS => ?_)
    obtain ⟨vz12, tz13, az14, htz13, hP1⟩ := hB
    rw [ht] at hP1
    obtain ⟨hP, hD⟩ := w_callR hP hD hk1 hP1 [0] rfl rfl (fun _ h => absurd h List.not_mem_nil) rfl [some 0] rfl rfl
    clear hPc hC hDc hFc hk1 hP1
    generalize H1 = H at hP hS ⊢
    have hP : va_P (dC, dI) vwCl (List.flatten [(wTape qT k readT vz12 tz13 az14)] ++ List.flatten [(wSag qX k (qT 0) toldX actsX nowX trialX storyX attemptX orderSearchX routeSearchX setSearchX probeX slot0X slot1X slot2X slot3X image0X image1X image2X aX)]) H := hP
    have hD : va_D A (List.flatten [(wTape qT k readT vz12 tz13 az14)] ++ List.flatten [(wSag qX k (qT 0) toldX actsX nowX trialX storyX attemptX orderSearchX routeSearchX setSearchX probeX slot0X slot1X slot2X slot3X image0X image1X image2X aX)]) := hD
    refine W.widen (k := 0) (n := 0) (Nat.le_refl 0) (Nat.le_refl 0) ?_
    refine lv_aload_n hx hb dX11_feed_34 rfl (lv_at hl 0 rfl) ?_
    refine va_get (D := (dC, dI)) (ci := 11) (v := .ref (qT 0)) (C := RX11) (T := TX11) (N := 15) hx hb hts (fun w h => List.mem_cons_of_mem _ (List.mem_append_right _ (List.mem_append_left _ h))) hown hK hP 2 rfl rfl 0 (by decide) (hts (.fieldLink RX11 10 "SagMemory" "tape" "LSagMemory$Tape;") (wl_mem 0 rfl)) (fun _ h9 => h9) rfl dX11_feed_35 ?_
    refine lv_iload_n hx hb dX11_feed_38 rfl (lv_at hl 3 rfl) ?_
    have hPc := hP.sub (ws' := (List.flatten [(wTape qT k readT vz12 tz13 az14)] ++ List.flatten ([] : List va_W))) [0, 1] rfl
    have hC : [0, 1].map (fun i => (List.flatten [(wTape qT k readT vz12 tz13 az14)] ++ List.flatten [(wSag qX k (qT 0) toldX actsX nowX trialX storyX attemptX orderSearchX routeSearchX setSearchX probeX slot0X slot1X slot2X slot3X image0X image1X image2X aX)])[i]?) = (List.flatten [(wTape qT k readT vz12 tz13 az14)] ++ List.flatten ([] : List va_W)).map some := rfl
    have hDc := hD.sub [0, 1] (by decide) hC
    have hFc := va_free hD hS hA [0, 1] hC
    refine va_callv (va_runV (As := [.int p3]) (rest := []) ⟨hx, hb, hml, hown, hts⟩ (c_X9_put l dC dI k H.size qT readT vz12 tz13 az14 p3 htz13) (cwV 1 hts (gk_V (wl_mem 2 rfl) (wl_mem 3 rfl) (wl_mem 4 rfl) (wl_mem 5 rfl) (fun w h => List.mem_cons_of_mem _ (List.mem_append_right _ (List.mem_append_right _ (List.mem_append_right _ (List.mem_append_left _ h))))) wkg_c_X9_put) rfl rfl rfl (by decide +kernel) ⟨Nat.le_of_ble_eq_true rfl, Nat.le_of_ble_eq_true rfl⟩) ⟨fun a U g mk q => by obtain ⟨q0, q1, qP, qK, qD⟩ := q; exact ⟨q0, q1, qP, va_K.moved (u := U) (U := U.calling g mk a) (Vm.Alike.refl U.vm) qK, qD⟩, va_recv hK hPc (ci := 9) (q0 := 0) rfl rfl, fun U hU hW => ⟨rfl, by rw [hU], by rw [hU]; exact hPc, va_K.moved hW.alike hK, hDc.weaken (fun _ _ _ _ => trivial)⟩⟩ rfl rfl hl.1 rfl (lv_room (Nat.le_of_ble_eq_true rfl)) dX11_feed_39 ⟨Nat.le_of_ble_eq_true rfl, Nat.le_of_ble_eq_true rfl⟩) hS (fun q _ h => hFc q h) hFc (fun u t H1 locs ht hvm gz15 hB hz1 hk1 hS => ?_)
    obtain ⟨vz17, tz18, az19, htz18, hP1⟩ := hB
    rw [ht] at hP1
    obtain ⟨hP, hD⟩ := w_callR hP hD hk1 hP1 [0] rfl rfl (fun _ h => absurd h List.not_mem_nil) rfl [some 0] rfl rfl
    clear hPc hC hDc hFc hk1 hP1
    generalize H1 = H at hP hS ⊢
    have hP : va_P (dC, dI) vwCl (List.flatten [(wTape qT k readT vz17 tz18 az19)] ++ List.flatten [(wSag qX k (qT 0) toldX actsX nowX trialX storyX attemptX orderSearchX routeSearchX setSearchX probeX slot0X slot1X slot2X slot3X image0X image1X image2X aX)]) H := hP
    have hD : va_D A (List.flatten [(wTape qT k readT vz17 tz18 az19)] ++ List.flatten [(wSag qX k (qT 0) toldX actsX nowX trialX storyX attemptX orderSearchX routeSearchX setSearchX probeX slot0X slot1X slot2X slot3X image0X image1X image2X aX)]) := hD
    refine W.widen (k := 0) (n := 0) (Nat.le_refl 0) (Nat.le_refl 0) ?_
    refine lv_aload_n hx hb dX11_feed_42 rfl (lv_at hl 0 rfl) ?_
    refine va_get (D := (dC, dI)) (ci := 11) (v := .ref (qT 0)) (C := RX11) (T := TX11) (N := 15) hx hb hts (fun w h => List.mem_cons_of_mem _ (List.mem_append_right _ (List.mem_append_left _ h))) hown hK hP 2 rfl rfl 0 (by decide) (hts (.fieldLink RX11 10 "SagMemory" "tape" "LSagMemory$Tape;") (wl_mem 0 rfl)) (fun _ h9 => h9) rfl dX11_feed_43 ?_
    refine lv_iload hx hb dX11_feed_46 (lv_at hl 4 rfl) ?_
    have hPc := hP.sub (ws' := (List.flatten [(wTape qT k readT vz17 tz18 az19)] ++ List.flatten ([] : List va_W))) [0, 1] rfl
    have hC : [0, 1].map (fun i => (List.flatten [(wTape qT k readT vz17 tz18 az19)] ++ List.flatten [(wSag qX k (qT 0) toldX actsX nowX trialX storyX attemptX orderSearchX routeSearchX setSearchX probeX slot0X slot1X slot2X slot3X image0X image1X image2X aX)])[i]?) = (List.flatten [(wTape qT k readT vz17 tz18 az19)] ++ List.flatten ([] : List va_W)).map some := rfl
    have hDc := hD.sub [0, 1] (by decide) hC
    have hFc := va_free hD hS hA [0, 1] hC
    refine va_callv (va_runV (As := [.int p4]) (rest := []) ⟨hx, hb, hml, hown, hts⟩ (c_X9_put l dC dI k H.size qT readT vz17 tz18 az19 p4 htz18) (cwV 1 hts (gk_V (wl_mem 2 rfl) (wl_mem 3 rfl) (wl_mem 4 rfl) (wl_mem 5 rfl) (fun w h => List.mem_cons_of_mem _ (List.mem_append_right _ (List.mem_append_right _ (List.mem_append_right _ (List.mem_append_left _ h))))) wkg_c_X9_put) rfl rfl rfl (by decide +kernel) ⟨Nat.le_of_ble_eq_true rfl, Nat.le_of_ble_eq_true rfl⟩) ⟨fun a U g mk q => by obtain ⟨q0, q1, qP, qK, qD⟩ := q; exact ⟨q0, q1, qP, va_K.moved (u := U) (U := U.calling g mk a) (Vm.Alike.refl U.vm) qK, qD⟩, va_recv hK hPc (ci := 9) (q0 := 0) rfl rfl, fun U hU hW => ⟨rfl, by rw [hU], by rw [hU]; exact hPc, va_K.moved hW.alike hK, hDc.weaken (fun _ _ _ _ => trivial)⟩⟩ rfl rfl hl.1 rfl (lv_room (Nat.le_of_ble_eq_true rfl)) dX11_feed_48 ⟨Nat.le_of_ble_eq_true rfl, Nat.le_of_ble_eq_true rfl⟩) hS (fun q _ h => hFc q h) hFc (fun u t H1 locs ht hvm gz20 hB hz1 hk1 hS => ?_)
    obtain ⟨vz22, tz23, az24, htz23, hP1⟩ := hB
    rw [ht] at hP1
    obtain ⟨hP, hD⟩ := w_callR hP hD hk1 hP1 [0] rfl rfl (fun _ h => absurd h List.not_mem_nil) rfl [some 0] rfl rfl
    clear hPc hC hDc hFc hk1 hP1
    generalize H1 = H at hP hS ⊢
    have hP : va_P (dC, dI) vwCl (List.flatten [(wTape qT k readT vz22 tz23 az24)] ++ List.flatten [(wSag qX k (qT 0) toldX actsX nowX trialX storyX attemptX orderSearchX routeSearchX setSearchX probeX slot0X slot1X slot2X slot3X image0X image1X image2X aX)]) H := hP
    have hD : va_D A (List.flatten [(wTape qT k readT vz22 tz23 az24)] ++ List.flatten [(wSag qX k (qT 0) toldX actsX nowX trialX storyX attemptX orderSearchX routeSearchX setSearchX probeX slot0X slot1X slot2X slot3X image0X image1X image2X aX)]) := hD
    refine W.widen (k := 0) (n := 0) (Nat.le_refl 0) (Nat.le_refl 0) ?_
    refine lv_aload_n hx hb dX11_feed_51 rfl (lv_at hl 0 rfl) ?_
    refine va_get (D := (dC, dI)) (ci := 11) (v := .ref (qT 0)) (C := RX11) (T := TX11) (N := 15) hx hb hts (fun w h => List.mem_cons_of_mem _ (List.mem_append_right _ (List.mem_append_left _ h))) hown hK hP 2 rfl rfl 0 (by decide) (hts (.fieldLink RX11 10 "SagMemory" "tape" "LSagMemory$Tape;") (wl_mem 0 rfl)) (fun _ h9 => h9) rfl dX11_feed_52 ?_
    refine lv_iload hx hb dX11_feed_55 (lv_at hl 5 rfl) ?_
    have hPc := hP.sub (ws' := (List.flatten [(wTape qT k readT vz22 tz23 az24)] ++ List.flatten ([] : List va_W))) [0, 1] rfl
    have hC : [0, 1].map (fun i => (List.flatten [(wTape qT k readT vz22 tz23 az24)] ++ List.flatten [(wSag qX k (qT 0) toldX actsX nowX trialX storyX attemptX orderSearchX routeSearchX setSearchX probeX slot0X slot1X slot2X slot3X image0X image1X image2X aX)])[i]?) = (List.flatten [(wTape qT k readT vz22 tz23 az24)] ++ List.flatten ([] : List va_W)).map some := rfl
    have hDc := hD.sub [0, 1] (by decide) hC
    have hFc := va_free hD hS hA [0, 1] hC
    refine va_callv (va_runV (As := [.int p5]) (rest := []) ⟨hx, hb, hml, hown, hts⟩ (c_X9_put l dC dI k H.size qT readT vz22 tz23 az24 p5 htz23) (cwV 1 hts (gk_V (wl_mem 2 rfl) (wl_mem 3 rfl) (wl_mem 4 rfl) (wl_mem 5 rfl) (fun w h => List.mem_cons_of_mem _ (List.mem_append_right _ (List.mem_append_right _ (List.mem_append_right _ (List.mem_append_left _ h))))) wkg_c_X9_put) rfl rfl rfl (by decide +kernel) ⟨Nat.le_of_ble_eq_true rfl, Nat.le_of_ble_eq_true rfl⟩) ⟨fun a U g mk q => by obtain ⟨q0, q1, qP, qK, qD⟩ := q; exact ⟨q0, q1, qP, va_K.moved (u := U) (U := U.calling g mk a) (Vm.Alike.refl U.vm) qK, qD⟩, va_recv hK hPc (ci := 9) (q0 := 0) rfl rfl, fun U hU hW => ⟨rfl, by rw [hU], by rw [hU]; exact hPc, va_K.moved hW.alike hK, hDc.weaken (fun _ _ _ _ => trivial)⟩⟩ rfl rfl hl.1 rfl (lv_room (Nat.le_of_ble_eq_true rfl)) dX11_feed_57 ⟨Nat.le_of_ble_eq_true rfl, Nat.le_of_ble_eq_true rfl⟩) hS (fun q _ h => hFc q h) hFc (fun u t H1 locs ht hvm gz25 hB hz1 hk1 hS => ?_)
    obtain ⟨vz27, tz28, az29, htz28, hP1⟩ := hB
    rw [ht] at hP1
    obtain ⟨hP, hD⟩ := w_callR hP hD hk1 hP1 [0] rfl rfl (fun _ h => absurd h List.not_mem_nil) rfl [some 0] rfl rfl
    clear hPc hC hDc hFc hk1 hP1
    generalize H1 = H at hP hS ⊢
    have hP : va_P (dC, dI) vwCl (List.flatten [(wTape qT k readT vz27 tz28 az29)] ++ List.flatten [(wSag qX k (qT 0) toldX actsX nowX trialX storyX attemptX orderSearchX routeSearchX setSearchX probeX slot0X slot1X slot2X slot3X image0X image1X image2X aX)]) H := hP
    have hD : va_D A (List.flatten [(wTape qT k readT vz27 tz28 az29)] ++ List.flatten [(wSag qX k (qT 0) toldX actsX nowX trialX storyX attemptX orderSearchX routeSearchX setSearchX probeX slot0X slot1X slot2X slot3X image0X image1X image2X aX)]) := hD
    refine W.widen (k := 0) (n := 0) (Nat.le_refl 0) (Nat.le_refl 0) ?_
    refine lv_aload_n hx hb dX11_feed_60 rfl (lv_at hl 0 rfl) ?_
    refine va_get (D := (dC, dI)) (ci := 11) (v := .ref (qT 0)) (C := RX11) (T := TX11) (N := 15) hx hb hts (fun w h => List.mem_cons_of_mem _ (List.mem_append_right _ (List.mem_append_left _ h))) hown hK hP 2 rfl rfl 0 (by decide) (hts (.fieldLink RX11 10 "SagMemory" "tape" "LSagMemory$Tape;") (wl_mem 0 rfl)) (fun _ h9 => h9) rfl dX11_feed_61 ?_
    refine va_get (D := (dC, dI)) (ci := 9) (v := .int (tz28 0)) (C := RX9) (T := TX9) (N := 10) hx hb hts (fun w h => List.mem_cons_of_mem _ (List.mem_append_right _ (List.mem_append_right _ (List.mem_append_left _ h)))) hown hK hP 0 rfl rfl 2 (by decide) (hts (.fieldLink RX11 97 "SagMemory$Tape" "length" "I") (wl_mem 1 rfl)) (fun _ h9 => h9) rfl dX11_feed_64 ?_
    have bz30 := htz28 0
    rw [hQ]
    exact W.iret (v := (tz28 0)) hx hb hr (fun t ht hW => ⟨⟨(tz28 0), (), rfl, trivial, vz27, tz28, az29, htz28, by rw [ht]; exact hP⟩, hS.F ht⟩) hS.2.2 dX11_feed_67
  · skip
    have zz31 : ¬ xz2.toInt ≤ (700 : Int) := fun h9 => cz3 (zi_le.mpr h9)
    refine lv_iconst (v := (-1)) hx hb dX11_feed_16 (by decide) ?_
    rw [hQ]
    exact W.iret (v := (-1 : Int32)) hx hb hr (fun t ht hW => ⟨⟨(-1 : Int32), (), rfl, trivial, vT, tT, aT, htT, by rw [ht]; exact hP⟩, hS.F ht⟩) hS.2.2 dX11_feed_17
def wk_c_X11_end : List Cond := .code yX11_end cX11_end 2 (some .int) :: ([.fieldLink RX11 10 "SagMemory" "tape" "LSagMemory$Tape;", .fieldLink RX11 97 "SagMemory$Tape" "length" "I"] ++ (wsX110 ++ (wsX90 ++ [])))
theorem wkg_c_X11_end : wk_c_X11_end.all goodWord = true := by decide +kernel
set_option maxHeartbeats 4000000 in
set_option maxRecDepth 100000 in
theorem c_X11_end (l : Launch) (dC : Nat → ClassId) (dI : Nat → Nat → Nat) (k : Nat → ClassId) (sz : Nat) (qX : Nat → Nat) (toldX : Nat) (actsX : Nat) (nowX : Nat) (trialX : Nat) (storyX : Nat) (attemptX : Nat) (orderSearchX : Nat) (routeSearchX : Nat) (setSearchX : Nat) (probeX : Nat) (slot0X : Nat) (slot1X : Nat) (slot2X : Nat) (slot3X : Nat) (image0X : Nat) (image1X : Nat) (image2X : Nat) (aX : Nat → Nat → Int32) (qT : Nat → Nat) (readT : Nat) (vT : Nat → Int32) (tT : Nat → Int32) (aT : Nat → Nat → Int32) (p1 : Int32) (htT : Rg 0 700 tT) : Met l yX11_end wk_c_X11_end ({ frames := 0, cells := 0, slots := 0, locals := 0 }) (va_Pc [.ref (qX 0), .int p1] (fun U => U.heap.size = sz ∧ va_P (dC, dI) vwCl (List.flatten [(wTape qT k readT vT tT aT)] ++ List.flatten [(wSag qX k (qT 0) toldX actsX nowX trialX storyX attemptX orderSearchX routeSearchX setSearchX probeX slot0X slot1X slot2X slot3X image0X image1X image2X aX)]) U.heap ∧ va_K (dC, dI) vwCl (tK k) U ∧ va_D (fun _ => True) (List.flatten [(wTape qT k readT vT tT aT)] ++ List.flatten [(wSag qX k (qT 0) toldX actsX nowX trialX storyX attemptX orderSearchX routeSearchX setSearchX probeX slot0X slot1X slot2X slot3X image0X image1X image2X aX)]))) (va_Qi (fun (r : Int32) (_ : Unit) => True) (fun (_ : Unit) (t : State) => ∃ (vT' : Nat → Int32) (tT' : Nat → Int32) (aT' : Nat → Nat → Int32), Rg 0 700 tT' ∧ va_P (dC, dI) vwCl (List.flatten [(wTape qT k readT vT' tT' aT')] ++ List.flatten [(wSag qX k (qT 0) toldX actsX nowX trialX storyX attemptX orderSearchX routeSearchX setSearchX probeX slot0X slot1X slot2X slot3X image0X image1X image2X aX)]) t.heap) (va_A (List.flatten [(wTape qT k readT vT tT aT)] ++ List.flatten [(wSag qX k (qT 0) toldX actsX nowX trialX storyX attemptX orderSearchX routeSearchX setSearchX probeX slot0X slot1X slot2X slot3X image0X image1X image2X aX)]) sz)) 0 0 (va_A (List.flatten [(wTape qT k readT vT tT aT)] ++ List.flatten [(wSag qX k (qT 0) toldX actsX nowX trialX storyX attemptX orderSearchX routeSearchX setSearchX probeX slot0X slot1X slot2X slot3X image0X image1X image2X aX)]) sz) := by
  refine Met.ofW (cc := cX11_end) (maxL := 2) (ret := (some .int)) (by decide) rfl ?_
  intro p e s m args below meth c s₁ B hml hv
  obtain ⟨rfl, hsz, hP, hK, hD0⟩ := hv
  have hx := B.exec
  have hb := B.bytes
  have hr := B.returns
  have hts := atoms_spec (ws := wk_c_X11_end) B.pre
  have hown : s.vm.findClass RX11 = some m.cls := findClass_of_methodNamed B.named
  have hlocks := B.notSynchronized
  subst hsz
  have hD := hD0.self (sz := s.heap.size)
  generalize hAe : va_A (List.flatten [(wTape qT k readT vT tT aT)] ++ List.flatten [(wSag qX k (qT 0) toldX actsX nowX trialX storyX attemptX orderSearchX routeSearchX setSearchX probeX slot0X slot1X slot2X slot3X image0X image1X image2X aX)]) s.heap.size = A at hD ⊢
  have hA : ∀ q : Nat, s.heap.size ≤ q → A q := fun q h => by rw [← hAe]; exact Or.inr h
  have hS : va_S A s.heap s.heap [] := va_S.rf
  have hP : va_P (dC, dI) vwCl (List.flatten [(wTape qT k readT vT tT aT)] ++ List.flatten [(wSag qX k (qT 0) toldX actsX nowX trialX storyX attemptX orderSearchX routeSearchX setSearchX probeX slot0X slot1X slot2X slot3X image0X image1X image2X aX)]) s.heap := hP
  have hl := lv_entry ([.ref (qX 0), .int p1]) (n := 2) (Nat.le_of_ble_eq_true rfl)
  rw [lg_entry_eq]
  generalize (lg_sl ([.ref (qX 0), .int p1]) ++ List.replicate (2 - (lg_sl ([.ref (qX 0), .int p1])).length) Slot.unset).toArray = ls at hl ⊢
  have hl : lv_has ls 2 [(0, .ref (qX 0)), (1, .int p1)] := hl
  refine w_gen (fun Q hQ => ?_)
  refine lv_iload_n hx hb dX11_end_0 rfl (lv_at hl 1 rfl) ?_
  refine lv_if_lt (tgt := 15) hx hb dX11_end_1 (by decide) (fun cz1 => ?_) (fun cz1 => ?_)
  · skip
    have bz2 := fb_rng p1
    have zz3 : p1.toInt < (0 : Int) := zi_lt.mp cz1
    refine lv_iconst (v := (-1)) hx hb dX11_end_15 (by decide) ?_
    rw [hQ]
    exact W.iret (v := (-1 : Int32)) hx hb hr (fun t ht hW => ⟨⟨(-1 : Int32), (), rfl, trivial, vT, tT, aT, htT, by rw [ht]; exact hP⟩, hS.F ht⟩) hS.2.2 dX11_end_16
  · skip
    have bz4 := fb_rng p1
    have zz5 : ¬ p1.toInt < (0 : Int) := fun h9 => cz1 (zi_lt.mpr h9)
    refine lv_iload_n hx hb dX11_end_4 rfl (lv_at hl 1 rfl) ?_
    refine lv_aload_n hx hb dX11_end_5 rfl (lv_at hl 0 rfl) ?_
    refine va_get (D := (dC, dI)) (ci := 11) (v := .ref (qT 0)) (C := RX11) (T := TX11) (N := 15) hx hb hts (fun w h => List.mem_cons_of_mem _ (List.mem_append_right _ (List.mem_append_left _ h))) hown hK hP 2 rfl rfl 0 (by decide) (hts (.fieldLink RX11 10 "SagMemory" "tape" "LSagMemory$Tape;") (wl_mem 0 rfl)) (fun _ h9 => h9) rfl dX11_end_6 ?_
    refine va_get (D := (dC, dI)) (ci := 9) (v := .int (tT 0)) (C := RX9) (T := TX9) (N := 10) hx hb hts (fun w h => List.mem_cons_of_mem _ (List.mem_append_right _ (List.mem_append_right _ (List.mem_append_left _ h)))) hown hK hP 0 rfl rfl 2 (by decide) (hts (.fieldLink RX11 97 "SagMemory$Tape" "length" "I") (wl_mem 1 rfl)) (fun _ h9 => h9) rfl dX11_end_9 ?_
    have bz6 := htT 0
    refine lv_icmp_le (tgt := 17) hx hb dX11_end_12 (by decide) (fun cz7 => ?_) (fun cz7 => ?_)
    · skip
      have zz8 : p1.toInt ≤ (tT 0).toInt := zi_le.mp cz7
      refine lv_aload_n hx hb dX11_end_17 rfl (lv_at hl 0 rfl) ?_
      refine va_get (D := (dC, dI)) (ci := 11) (v := .ref (qT 0)) (C := RX11) (T := TX11) (N := 15) hx hb hts (fun w h => List.mem_cons_of_mem _ (List.mem_append_right _ (List.mem_append_left _ h))) hown hK hP 2 rfl rfl 0 (by decide) (hts (.fieldLink RX11 10 "SagMemory" "tape" "LSagMemory$Tape;") (wl_mem 0 rfl)) (fun _ h9 => h9) rfl dX11_end_18 ?_
      refine lv_iload_n hx hb dX11_end_21 rfl (lv_at hl 1 rfl) ?_
      refine va_put (D := (dC, dI)) (ci := 9) (v := .int p1) (ty := .int) (C := RX9) (T := TX9) (N := 10) hx hb hts (fun w h => List.mem_cons_of_mem _ (List.mem_append_right _ (List.mem_append_right _ (List.mem_append_left _ h)))) tyX9 tyX9_ok nmX9 hown hK hP hD hS 0 rfl rfl 2 (by decide) (hts (.fieldLink RX11 97 "SagMemory$Tape" "length" "I") (wl_mem 1 rfl)) (fun _ h9 => h9) rfl (by decide +kernel) rfl rfl (Nat.le_of_ble_eq_true rfl) dX11_end_22 (fun H locs hP hD hS => ?_)
      have hP : va_P (dC, dI) vwCl (List.flatten [(wTape qT k readT vT (va_up tT 0 p1) aT)] ++ List.flatten [(wSag qX k (qT 0) toldX actsX nowX trialX storyX attemptX orderSearchX routeSearchX setSearchX probeX slot0X slot1X slot2X slot3X image0X image1X image2X aX)]) H := hP
      have hD : va_D A (List.flatten [(wTape qT k readT vT (va_up tT 0 p1) aT)] ++ List.flatten [(wSag qX k (qT 0) toldX actsX nowX trialX storyX attemptX orderSearchX routeSearchX setSearchX probeX slot0X slot1X slot2X slot3X image0X image1X image2X aX)]) := hD
      refine lv_iload_n hx hb dX11_end_25 rfl (lv_at hl 1 rfl) ?_
      rw [hQ]
      exact W.iret (v := p1) hx hb hr (fun t ht hW => ⟨⟨p1, (), rfl, trivial, vT, (va_up tT 0 p1), aT, (rg_up htT (by show 0 ≤ p1.toInt ∧ p1.toInt ≤ 700; omega)), by rw [ht]; exact hP⟩, hS.F ht⟩) hS.2.2 dX11_end_26
    · skip
      have zz9 : ¬ p1.toInt ≤ (tT 0).toInt := fun h9 => cz7 (zi_le.mpr h9)
      refine lv_iconst (v := (-1)) hx hb dX11_end_15 (by decide) ?_
      rw [hQ]
      exact W.iret (v := (-1 : Int32)) hx hb hr (fun t ht hW => ⟨⟨(-1 : Int32), (), rfl, trivial, vT, tT, aT, htT, by rw [ht]; exact hP⟩, hS.F ht⟩) hS.2.2 dX11_end_16
def wk_c_X11_fault : List Cond := .code yX11_fault cX11_fault 2 (some .int) :: ([.fieldLink RX11 10 "SagMemory" "tape" "LSagMemory$Tape;", .fieldLink RX11 128 "SagMemory$Tape" "place" "I", .fieldLink RX11 125 "SagMemory$Tape" "fault" "I"] ++ (wsX110 ++ (wsX90 ++ [])))
theorem wkg_c_X11_fault : wk_c_X11_fault.all goodWord = true := by decide +kernel
set_option maxHeartbeats 4000000 in
set_option maxRecDepth 100000 in
theorem c_X11_fault (l : Launch) (dC : Nat → ClassId) (dI : Nat → Nat → Nat) (k : Nat → ClassId) (qX : Nat → Nat) (toldX : Nat) (actsX : Nat) (nowX : Nat) (trialX : Nat) (storyX : Nat) (attemptX : Nat) (orderSearchX : Nat) (routeSearchX : Nat) (setSearchX : Nat) (probeX : Nat) (slot0X : Nat) (slot1X : Nat) (slot2X : Nat) (slot3X : Nat) (image0X : Nat) (image1X : Nat) (image2X : Nat) (aX : Nat → Nat → Int32) (qT : Nat → Nat) (readT : Nat) (vT : Nat → Int32) (tT : Nat → Int32) (aT : Nat → Nat → Int32) (p1 : Int32) (htT : Rg 0 700 tT) : Met l yX11_fault wk_c_X11_fault ({ frames := 0, cells := 0, slots := 0, locals := 0 }) (va_Pc [.ref (qX 0), .int p1] (fun U => va_P (dC, dI) vwCl (List.flatten [(wSag qX k (qT 0) toldX actsX nowX trialX storyX attemptX orderSearchX routeSearchX setSearchX probeX slot0X slot1X slot2X slot3X image0X image1X image2X aX), (wTape qT k readT vT tT aT)]) U.heap ∧ va_K (dC, dI) vwCl (tK k) U)) (vp_Si (fun r : Int32 => True)) 0 0 (fun _ => False) := by
  refine Met.ofW (cc := cX11_fault) (maxL := 2) (ret := (some .int)) (by decide) rfl ?_
  intro p e s m args below meth c s₁ B hml hv
  obtain ⟨rfl, hP, hK⟩ := hv
  have hx := B.exec
  have hb := B.bytes
  have hr := B.returns
  have hts := atoms_spec (ws := wk_c_X11_fault) B.pre
  have hown : s.vm.findClass RX11 = some m.cls := findClass_of_methodNamed B.named
  have hlocks := B.notSynchronized
  have hP : va_P (dC, dI) vwCl (List.flatten [(wSag qX k (qT 0) toldX actsX nowX trialX storyX attemptX orderSearchX routeSearchX setSearchX probeX slot0X slot1X slot2X slot3X image0X image1X image2X aX), (wTape qT k readT vT tT aT)]) s.heap := hP
  have hl := lv_entry ([.ref (qX 0), .int p1]) (n := 2) (Nat.le_of_ble_eq_true rfl)
  rw [lg_entry_eq]
  generalize (lg_sl ([.ref (qX 0), .int p1]) ++ List.replicate (2 - (lg_sl ([.ref (qX 0), .int p1])).length) Slot.unset).toArray = ls at hl ⊢
  have hl : lv_has ls 2 [(0, .ref (qX 0)), (1, .int p1)] := hl
  refine w_gen (fun Q hQ => ?_)
  refine lv_iload_n hx hb dX11_fault_0 rfl (lv_at hl 1 rfl) ?_
  refine lv_if_ne (tgt := 12) hx hb dX11_fault_1 (by decide) (fun cz1 => ?_) (fun cz1 => ?_)
  · skip
    have zz2 : ¬ p1.toInt = (0 : Int) := fun h9 => cz1 (zi_eq.mpr h9)
    refine lv_iload_n hx hb dX11_fault_12 rfl (lv_at hl 1 rfl) ?_
    refine lv_iconst (v := 1) hx hb dX11_fault_13 (by decide) ?_
    refine lv_icmp_ne (tgt := 27) hx hb dX11_fault_14 (by decide) (fun cz3 => ?_) (fun cz3 => ?_)
    · skip
      have zz4 : ¬ p1.toInt = (1 : Int) := fun h9 => cz3 (zi_eq.mpr h9)
      refine lv_iconst (v := (-1)) hx hb dX11_fault_27 (by decide) ?_
      rw [hQ]
      exact W.iret (v := (-1 : Int32)) hx hb hr (fun t ht hW => ⟨(-1 : Int32), rfl, trivial, ht⟩) (fun _ h => absurd h List.not_mem_nil) dX11_fault_28
    · skip
      have zz5 : p1.toInt = (1 : Int) := zi_eq.mp cz3
      refine lv_aload_n hx hb dX11_fault_17 rfl (lv_at hl 0 rfl) ?_
      refine va_get (D := (dC, dI)) (ci := 11) (v := .ref (qT 0)) (C := RX11) (T := TX11) (N := 15) hx hb hts (fun w h => List.mem_cons_of_mem _ (List.mem_append_right _ (List.mem_append_left _ h))) hown hK hP 0 rfl rfl 0 (by decide) (hts (.fieldLink RX11 10 "SagMemory" "tape" "LSagMemory$Tape;") (wl_mem 0 rfl)) (fun _ h9 => h9) rfl dX11_fault_18 ?_
      refine va_get (D := (dC, dI)) (ci := 9) (v := .int (vT 1)) (C := RX9) (T := TX9) (N := 10) hx hb hts (fun w h => List.mem_cons_of_mem _ (List.mem_append_right _ (List.mem_append_right _ (List.mem_append_left _ h)))) hown hK hP 5 rfl rfl 4 (by decide) (hts (.fieldLink RX11 128 "SagMemory$Tape" "place" "I") (wl_mem 1 rfl)) (fun _ h9 => h9) rfl dX11_fault_21 ?_
      refine lv_goto (tgt := 28) hx hb dX11_fault_24 (by decide) ?_
      rw [hQ]
      exact W.iret (v := (vT 1)) hx hb hr (fun t ht hW => ⟨(vT 1), rfl, trivial, ht⟩) (fun _ h => absurd h List.not_mem_nil) dX11_fault_28
  · skip
    have zz6 : p1.toInt = (0 : Int) := zi_eq.mp cz1
    refine lv_aload_n hx hb dX11_fault_4 rfl (lv_at hl 0 rfl) ?_
    refine va_get (D := (dC, dI)) (ci := 11) (v := .ref (qT 0)) (C := RX11) (T := TX11) (N := 15) hx hb hts (fun w h => List.mem_cons_of_mem _ (List.mem_append_right _ (List.mem_append_left _ h))) hown hK hP 0 rfl rfl 0 (by decide) (hts (.fieldLink RX11 10 "SagMemory" "tape" "LSagMemory$Tape;") (wl_mem 0 rfl)) (fun _ h9 => h9) rfl dX11_fault_5 ?_
    refine va_get (D := (dC, dI)) (ci := 9) (v := .int (vT 0)) (C := RX9) (T := TX9) (N := 10) hx hb hts (fun w h => List.mem_cons_of_mem _ (List.mem_append_right _ (List.mem_append_right _ (List.mem_append_left _ h)))) hown hK hP 5 rfl rfl 3 (by decide) (hts (.fieldLink RX11 125 "SagMemory$Tape" "fault" "I") (wl_mem 2 rfl)) (fun _ h9 => h9) rfl dX11_fault_8 ?_
    rw [hQ]
    exact W.iret (v := (vT 0)) hx hb hr (fun t ht hW => ⟨(vT 0), rfl, trivial, ht⟩) (fun _ h => absurd h List.not_mem_nil) dX11_fault_11
def wk_c_X11_bridge : List Cond := .code yX11_bridge cX11_bridge 3 (some .int) :: ([.fieldLink RX11 19 "SagMemory" "told" "LSagMemory$Valley;", .methodLink RX11 131 yX10_hasBridge, .instanceMethod yX10_hasBridge, .selects RX10 yX10_hasBridge yX10_hasBridge, .initialized RX10, .fieldLink RX11 138 "SagMemory$Valley" "tolls" "[I", .fieldLink RX11 135 "SagMemory$Valley" "holds" "[I"] ++ (wsX110 ++ (wk_c_X10_hasBridge ++ (wsX100 ++ []))))
theorem wkg_c_X11_bridge : wk_c_X11_bridge.all goodWord = true := by decide +kernel
set_option maxHeartbeats 4000000 in
set_option maxRecDepth 100000 in
theorem c_X11_bridge (l : Launch) (dC : Nat → ClassId) (dI : Nat → Nat → Nat) (k : Nat → ClassId) (qX : Nat → Nat) (tapeX : Nat) (actsX : Nat) (nowX : Nat) (trialX : Nat) (storyX : Nat) (attemptX : Nat) (orderSearchX : Nat) (routeSearchX : Nat) (setSearchX : Nat) (probeX : Nat) (slot0X : Nat) (slot1X : Nat) (slot2X : Nat) (slot3X : Nat) (image0X : Nat) (image1X : Nat) (image2X : Nat) (aX : Nat → Nat → Int32) (qV : Nat → Nat) (vV : Nat → Int32) (bV : Nat → Int32) (cV : Nat → Int32) (wV : Nat → Int32) (aV : Nat → Nat → Int32) (eV : Nat → Nat → Int32) (p1 : Int32) (p2 : Int32) (hbV : Rg 0 3 bV) (hcV : Rg 0 7 cV) (hwV : Rg 0 5 wV) (heV : RgA 0 99 eV) : Met l yX11_bridge wk_c_X11_bridge ({ frames := 1, cells := 0, slots := 0, locals := 21 }) (va_Pc [.ref (qX 0), .int p1, .int p2] (fun U => va_P (dC, dI) vwCl (List.flatten [(wSag qX k tapeX (qV 0) actsX nowX trialX storyX attemptX orderSearchX routeSearchX setSearchX probeX slot0X slot1X slot2X slot3X image0X image1X image2X aX), (wValley qV k vV bV cV wV aV eV)]) U.heap ∧ va_K (dC, dI) vwCl (tK k) U)) (vp_Si (fun r : Int32 => True)) 0 0 (fun _ => False) := by
  refine Met.ofW (cc := cX11_bridge) (maxL := 3) (ret := (some .int)) (by decide) rfl ?_
  intro p e s m args below meth c s₁ B hml hv
  obtain ⟨rfl, hP, hK⟩ := hv
  have hx := B.exec
  have hb := B.bytes
  have hr := B.returns
  have hts := atoms_spec (ws := wk_c_X11_bridge) B.pre
  have hown : s.vm.findClass RX11 = some m.cls := findClass_of_methodNamed B.named
  have hlocks := B.notSynchronized
  have hP : va_P (dC, dI) vwCl (List.flatten [(wSag qX k tapeX (qV 0) actsX nowX trialX storyX attemptX orderSearchX routeSearchX setSearchX probeX slot0X slot1X slot2X slot3X image0X image1X image2X aX), (wValley qV k vV bV cV wV aV eV)]) s.heap := hP
  have hl := lv_entry ([.ref (qX 0), .int p1, .int p2]) (n := 3) (Nat.le_of_ble_eq_true rfl)
  rw [lg_entry_eq]
  generalize (lg_sl ([.ref (qX 0), .int p1, .int p2]) ++ List.replicate (3 - (lg_sl ([.ref (qX 0), .int p1, .int p2])).length) Slot.unset).toArray = ls at hl ⊢
  have hl : lv_has ls 3 [(0, .ref (qX 0)), (1, .int p1), (2, .int p2)] := hl
  refine w_gen (fun Q hQ => ?_)
  refine lv_aload_n hx hb dX11_bridge_0 rfl (lv_at hl 0 rfl) ?_
  refine va_get (D := (dC, dI)) (ci := 11) (v := .ref (qV 0)) (C := RX11) (T := TX11) (N := 15) hx hb hts (fun w h => List.mem_cons_of_mem _ (List.mem_append_right _ (List.mem_append_left _ h))) hown hK hP 0 rfl rfl 1 (by decide) (hts (.fieldLink RX11 19 "SagMemory" "told" "LSagMemory$Valley;") (wl_mem 0 rfl)) (fun _ h9 => h9) rfl dX11_bridge_1 ?_
  refine lv_iload_n hx hb dX11_bridge_4 rfl (lv_at hl 1 rfl) ?_
  have hPc := hP.sub (ws' := (List.flatten [(wValley qV k vV bV cV wV aV eV)])) [5, 6, 7, 8, 9, 10, 11, 12] rfl
  refine vp_callSi (va_Run.run (va_runV (As := [.int p1]) (rest := []) ⟨hx, hb, hml, hown, hts⟩ (c_X10_hasBridge l dC dI k qV vV bV cV wV aV eV p1 hbV hcV hwV heV) (cwV 1 hts (gk_V (wl_mem 1 rfl) (wl_mem 2 rfl) (wl_mem 3 rfl) (wl_mem 4 rfl) (fun w h => List.mem_cons_of_mem _ (List.mem_append_right _ (List.mem_append_right _ (List.mem_append_left _ h)))) wkg_c_X10_hasBridge) rfl rfl rfl (by decide +kernel) ⟨Nat.le_of_ble_eq_true rfl, Nat.le_of_ble_eq_true rfl⟩) ⟨fun a U g mk q => by obtain ⟨q0, qP, qK⟩ := q; exact ⟨q0, qP, va_K.moved (u := U) (U := U.calling g mk a) (Vm.Alike.refl U.vm) qK⟩, va_recv hK hPc (ci := 10) (q0 := 0) rfl rfl, fun U hU hW => ⟨rfl, by rw [hU]; exact hPc, va_K.moved hW.alike hK⟩⟩ rfl rfl hl.1 rfl (lv_room (Nat.le_of_ble_eq_true rfl)) dX11_bridge_5 ⟨Nat.le_of_ble_eq_true rfl, Nat.le_of_ble_eq_true rfl⟩)) (fun rz2 gz1 => ?_)
  clear hPc
  rcases gz1 with ⟨er, cz3⟩ | ⟨er, cz4, cz5⟩ | ⟨er, cz6, cz7⟩
  · obtain rfl := er.symm
    have bz8 := fb_rng p1
    have zz9 : p1.toInt < (0 : Int) := zi_lt.mp cz3
    refine lv_if_eq (tgt := 20) hx hb dX11_bridge_8 (by decide) (fun cz10 => ?_) (fun cz10 => ?_)
    · skip
      refine lv_bipush (v := (-2)) hx hb dX11_bridge_20 (by decide) ?_
      rw [hQ]
      exact W.iret (v := (-2 : Int32)) hx hb hr (fun t ht hW => ⟨(-2 : Int32), rfl, trivial, ht⟩) (fun _ h => absurd h List.not_mem_nil) dX11_bridge_22
    · skip
      exact absurd cz10 (by decide)
  · obtain rfl := er.symm
    have bz11 := fb_rng p1
    have zz12 : ¬ p1.toInt < (0 : Int) := fun h9 => cz4 (zi_lt.mpr h9)
    have bz13 := hbV 0
    have zz14 : (bV 0).toInt ≤ p1.toInt := zi_le.mp cz5
    refine lv_if_eq (tgt := 20) hx hb dX11_bridge_8 (by decide) (fun cz15 => ?_) (fun cz15 => ?_)
    · skip
      refine lv_bipush (v := (-2)) hx hb dX11_bridge_20 (by decide) ?_
      rw [hQ]
      exact W.iret (v := (-2 : Int32)) hx hb hr (fun t ht hW => ⟨(-2 : Int32), rfl, trivial, ht⟩) (fun _ h => absurd h List.not_mem_nil) dX11_bridge_22
    · skip
      exact absurd cz15 (by decide)
  · obtain rfl := er.symm
    have bz16 := fb_rng p1
    have zz17 : ¬ p1.toInt < (0 : Int) := fun h9 => cz6 (zi_lt.mpr h9)
    have bz18 := hbV 0
    have zz19 : ¬ (bV 0).toInt ≤ p1.toInt := fun h9 => cz7 (zi_le.mpr h9)
    refine lv_if_eq (tgt := 20) hx hb dX11_bridge_8 (by decide) (fun cz20 => ?_) (fun cz20 => ?_)
    · skip
      exact absurd cz20 (by decide)
    · skip
      refine lv_iload_n hx hb dX11_bridge_11 rfl (lv_at hl 2 rfl) ?_
      refine lv_if_lt (tgt := 20) hx hb dX11_bridge_12 (by decide) (fun cz21 => ?_) (fun cz21 => ?_)
      · skip
        have bz22 := fb_rng p2
        have zz23 : p2.toInt < (0 : Int) := zi_lt.mp cz21
        refine lv_bipush (v := (-2)) hx hb dX11_bridge_20 (by decide) ?_
        rw [hQ]
        exact W.iret (v := (-2 : Int32)) hx hb hr (fun t ht hW => ⟨(-2 : Int32), rfl, trivial, ht⟩) (fun _ h => absurd h List.not_mem_nil) dX11_bridge_22
      · skip
        have bz24 := fb_rng p2
        have zz25 : ¬ p2.toInt < (0 : Int) := fun h9 => cz21 (zi_lt.mpr h9)
        refine lv_iload_n hx hb dX11_bridge_15 rfl (lv_at hl 2 rfl) ?_
        refine lv_iconst (v := 1) hx hb dX11_bridge_16 (by decide) ?_
        refine lv_icmp_le (tgt := 23) hx hb dX11_bridge_17 (by decide) (fun cz26 => ?_) (fun cz26 => ?_)
        · skip
          have zz27 : p2.toInt ≤ (1 : Int) := zi_le.mp cz26
          refine lv_iload_n hx hb dX11_bridge_23 rfl (lv_at hl 2 rfl) ?_
          refine lv_if_ne (tgt := 39) hx hb dX11_bridge_24 (by decide) (fun cz28 => ?_) (fun cz28 => ?_)
          · skip
            have zz29 : ¬ p2.toInt = (0 : Int) := fun h9 => cz28 (zi_eq.mpr h9)
            refine lv_aload_n hx hb dX11_bridge_39 rfl (lv_at hl 0 rfl) ?_
            refine va_get (D := (dC, dI)) (ci := 11) (v := .ref (qV 0)) (C := RX11) (T := TX11) (N := 15) hx hb hts (fun w h => List.mem_cons_of_mem _ (List.mem_append_right _ (List.mem_append_left _ h))) hown hK hP 0 rfl rfl 1 (by decide) (hts (.fieldLink RX11 19 "SagMemory" "told" "LSagMemory$Valley;") (wl_mem 0 rfl)) (fun _ h9 => h9) rfl dX11_bridge_40 ?_
            refine va_get (D := (dC, dI)) (ci := 10) (v := .ref (qV 2)) (C := RX10) (T := TX10) (N := 16) hx hb hts (fun w h => List.mem_cons_of_mem _ (List.mem_append_right _ (List.mem_append_right _ (List.mem_append_right _ (List.mem_append_left _ h))))) hown hK hP 5 rfl rfl 1 (by decide) (hts (.fieldLink RX11 138 "SagMemory$Valley" "tolls" "[I") (wl_mem 5 rfl)) (fun _ h9 => h9) rfl dX11_bridge_43 ?_
            refine lv_iload_n hx hb dX11_bridge_46 rfl (lv_at hl 1 rfl) ?_
            refine va_iald hx hb hK hP 7 0 rfl rfl (vp_in_iff.mpr ⟨by omega, by omega⟩) dX11_bridge_47 ?_
            refine lv_topi (fun xz30 exz30 => ?_)
            rw [hQ]
            exact W.iret (v := xz30) hx hb hr (fun t ht hW => ⟨xz30, rfl, trivial, ht⟩) (fun _ h => absurd h List.not_mem_nil) dX11_bridge_48
          · skip
            have zz31 : p2.toInt = (0 : Int) := zi_eq.mp cz28
            refine lv_aload_n hx hb dX11_bridge_27 rfl (lv_at hl 0 rfl) ?_
            refine va_get (D := (dC, dI)) (ci := 11) (v := .ref (qV 0)) (C := RX11) (T := TX11) (N := 15) hx hb hts (fun w h => List.mem_cons_of_mem _ (List.mem_append_right _ (List.mem_append_left _ h))) hown hK hP 0 rfl rfl 1 (by decide) (hts (.fieldLink RX11 19 "SagMemory" "told" "LSagMemory$Valley;") (wl_mem 0 rfl)) (fun _ h9 => h9) rfl dX11_bridge_28 ?_
            refine va_get (D := (dC, dI)) (ci := 10) (v := .ref (qV 1)) (C := RX10) (T := TX10) (N := 16) hx hb hts (fun w h => List.mem_cons_of_mem _ (List.mem_append_right _ (List.mem_append_right _ (List.mem_append_right _ (List.mem_append_left _ h))))) hown hK hP 5 rfl rfl 0 (by decide) (hts (.fieldLink RX11 135 "SagMemory$Valley" "holds" "[I") (wl_mem 6 rfl)) (fun _ h9 => h9) rfl dX11_bridge_31 ?_
            refine lv_iload_n hx hb dX11_bridge_34 rfl (lv_at hl 1 rfl) ?_
            refine va_iald hx hb hK hP 6 0 rfl rfl (vp_in_iff.mpr ⟨by omega, by omega⟩) dX11_bridge_35 ?_
            refine lv_topi (fun xz32 exz32 => ?_)
            refine lv_goto (tgt := 48) hx hb dX11_bridge_36 (by decide) ?_
            rw [hQ]
            exact W.iret (v := xz32) hx hb hr (fun t ht hW => ⟨xz32, rfl, trivial, ht⟩) (fun _ h => absurd h List.not_mem_nil) dX11_bridge_48
        · skip
          have zz33 : ¬ p2.toInt ≤ (1 : Int) := fun h9 => cz26 (zi_le.mpr h9)
          refine lv_bipush (v := (-2)) hx hb dX11_bridge_20 (by decide) ?_
          rw [hQ]
          exact W.iret (v := (-2 : Int32)) hx hb hr (fun t ht hW => ⟨(-2 : Int32), rfl, trivial, ht⟩) (fun _ h => absurd h List.not_mem_nil) dX11_bridge_22
def wk_c_X11_cart : List Cond := .code yX11_cart cX11_cart 3 (some .int) :: ([.fieldLink RX11 19 "SagMemory" "told" "LSagMemory$Valley;", .methodLink RX11 141 yX10_hasCart, .instanceMethod yX10_hasCart, .selects RX10 yX10_hasCart yX10_hasCart, .initialized RX10, .fieldLink RX11 147 "SagMemory$Valley" "ways" "[I", .fieldLink RX11 144 "SagMemory$Valley" "loads" "[I"] ++ (wsX110 ++ (wk_c_X10_hasCart ++ (wsX100 ++ []))))
theorem wkg_c_X11_cart : wk_c_X11_cart.all goodWord = true := by decide +kernel
set_option maxHeartbeats 4000000 in
set_option maxRecDepth 100000 in
theorem c_X11_cart (l : Launch) (dC : Nat → ClassId) (dI : Nat → Nat → Nat) (k : Nat → ClassId) (qX : Nat → Nat) (tapeX : Nat) (actsX : Nat) (nowX : Nat) (trialX : Nat) (storyX : Nat) (attemptX : Nat) (orderSearchX : Nat) (routeSearchX : Nat) (setSearchX : Nat) (probeX : Nat) (slot0X : Nat) (slot1X : Nat) (slot2X : Nat) (slot3X : Nat) (image0X : Nat) (image1X : Nat) (image2X : Nat) (aX : Nat → Nat → Int32) (qV : Nat → Nat) (vV : Nat → Int32) (bV : Nat → Int32) (cV : Nat → Int32) (wV : Nat → Int32) (aV : Nat → Nat → Int32) (eV : Nat → Nat → Int32) (p1 : Int32) (p2 : Int32) (hbV : Rg 0 3 bV) (hcV : Rg 0 7 cV) (hwV : Rg 0 5 wV) (heV : RgA 0 99 eV) : Met l yX11_cart wk_c_X11_cart ({ frames := 1, cells := 0, slots := 0, locals := 21 }) (va_Pc [.ref (qX 0), .int p1, .int p2] (fun U => va_P (dC, dI) vwCl (List.flatten [(wSag qX k tapeX (qV 0) actsX nowX trialX storyX attemptX orderSearchX routeSearchX setSearchX probeX slot0X slot1X slot2X slot3X image0X image1X image2X aX), (wValley qV k vV bV cV wV aV eV)]) U.heap ∧ va_K (dC, dI) vwCl (tK k) U)) (vp_Si (fun r : Int32 => True)) 0 0 (fun _ => False) := by
  refine Met.ofW (cc := cX11_cart) (maxL := 3) (ret := (some .int)) (by decide) rfl ?_
  intro p e s m args below meth c s₁ B hml hv
  obtain ⟨rfl, hP, hK⟩ := hv
  have hx := B.exec
  have hb := B.bytes
  have hr := B.returns
  have hts := atoms_spec (ws := wk_c_X11_cart) B.pre
  have hown : s.vm.findClass RX11 = some m.cls := findClass_of_methodNamed B.named
  have hlocks := B.notSynchronized
  have hP : va_P (dC, dI) vwCl (List.flatten [(wSag qX k tapeX (qV 0) actsX nowX trialX storyX attemptX orderSearchX routeSearchX setSearchX probeX slot0X slot1X slot2X slot3X image0X image1X image2X aX), (wValley qV k vV bV cV wV aV eV)]) s.heap := hP
  have hl := lv_entry ([.ref (qX 0), .int p1, .int p2]) (n := 3) (Nat.le_of_ble_eq_true rfl)
  rw [lg_entry_eq]
  generalize (lg_sl ([.ref (qX 0), .int p1, .int p2]) ++ List.replicate (3 - (lg_sl ([.ref (qX 0), .int p1, .int p2])).length) Slot.unset).toArray = ls at hl ⊢
  have hl : lv_has ls 3 [(0, .ref (qX 0)), (1, .int p1), (2, .int p2)] := hl
  refine w_gen (fun Q hQ => ?_)
  refine lv_aload_n hx hb dX11_cart_0 rfl (lv_at hl 0 rfl) ?_
  refine va_get (D := (dC, dI)) (ci := 11) (v := .ref (qV 0)) (C := RX11) (T := TX11) (N := 15) hx hb hts (fun w h => List.mem_cons_of_mem _ (List.mem_append_right _ (List.mem_append_left _ h))) hown hK hP 0 rfl rfl 1 (by decide) (hts (.fieldLink RX11 19 "SagMemory" "told" "LSagMemory$Valley;") (wl_mem 0 rfl)) (fun _ h9 => h9) rfl dX11_cart_1 ?_
  refine lv_iload_n hx hb dX11_cart_4 rfl (lv_at hl 1 rfl) ?_
  have hPc := hP.sub (ws' := (List.flatten [(wValley qV k vV bV cV wV aV eV)])) [5, 6, 7, 8, 9, 10, 11, 12] rfl
  refine vp_callSi (va_Run.run (va_runV (As := [.int p1]) (rest := []) ⟨hx, hb, hml, hown, hts⟩ (c_X10_hasCart l dC dI k qV vV bV cV wV aV eV p1 hbV hcV hwV heV) (cwV 1 hts (gk_V (wl_mem 1 rfl) (wl_mem 2 rfl) (wl_mem 3 rfl) (wl_mem 4 rfl) (fun w h => List.mem_cons_of_mem _ (List.mem_append_right _ (List.mem_append_right _ (List.mem_append_left _ h)))) wkg_c_X10_hasCart) rfl rfl rfl (by decide +kernel) ⟨Nat.le_of_ble_eq_true rfl, Nat.le_of_ble_eq_true rfl⟩) ⟨fun a U g mk q => by obtain ⟨q0, qP, qK⟩ := q; exact ⟨q0, qP, va_K.moved (u := U) (U := U.calling g mk a) (Vm.Alike.refl U.vm) qK⟩, va_recv hK hPc (ci := 10) (q0 := 0) rfl rfl, fun U hU hW => ⟨rfl, by rw [hU]; exact hPc, va_K.moved hW.alike hK⟩⟩ rfl rfl hl.1 rfl (lv_room (Nat.le_of_ble_eq_true rfl)) dX11_cart_5 ⟨Nat.le_of_ble_eq_true rfl, Nat.le_of_ble_eq_true rfl⟩)) (fun rz2 gz1 => ?_)
  clear hPc
  rcases gz1 with ⟨er, cz3⟩ | ⟨er, cz4, cz5⟩ | ⟨er, cz6, cz7⟩
  · obtain rfl := er.symm
    have bz8 := fb_rng p1
    have zz9 : p1.toInt < (0 : Int) := zi_lt.mp cz3
    refine lv_if_eq (tgt := 20) hx hb dX11_cart_8 (by decide) (fun cz10 => ?_) (fun cz10 => ?_)
    · skip
      refine lv_bipush (v := (-2)) hx hb dX11_cart_20 (by decide) ?_
      rw [hQ]
      exact W.iret (v := (-2 : Int32)) hx hb hr (fun t ht hW => ⟨(-2 : Int32), rfl, trivial, ht⟩) (fun _ h => absurd h List.not_mem_nil) dX11_cart_22
    · skip
      exact absurd cz10 (by decide)
  · obtain rfl := er.symm
    have bz11 := fb_rng p1
    have zz12 : ¬ p1.toInt < (0 : Int) := fun h9 => cz4 (zi_lt.mpr h9)
    have bz13 := hcV 0
    have zz14 : (cV 0).toInt ≤ p1.toInt := zi_le.mp cz5
    refine lv_if_eq (tgt := 20) hx hb dX11_cart_8 (by decide) (fun cz15 => ?_) (fun cz15 => ?_)
    · skip
      refine lv_bipush (v := (-2)) hx hb dX11_cart_20 (by decide) ?_
      rw [hQ]
      exact W.iret (v := (-2 : Int32)) hx hb hr (fun t ht hW => ⟨(-2 : Int32), rfl, trivial, ht⟩) (fun _ h => absurd h List.not_mem_nil) dX11_cart_22
    · skip
      exact absurd cz15 (by decide)
  · obtain rfl := er.symm
    have bz16 := fb_rng p1
    have zz17 : ¬ p1.toInt < (0 : Int) := fun h9 => cz6 (zi_lt.mpr h9)
    have bz18 := hcV 0
    have zz19 : ¬ (cV 0).toInt ≤ p1.toInt := fun h9 => cz7 (zi_le.mpr h9)
    refine lv_if_eq (tgt := 20) hx hb dX11_cart_8 (by decide) (fun cz20 => ?_) (fun cz20 => ?_)
    · skip
      exact absurd cz20 (by decide)
    · skip
      refine lv_iload_n hx hb dX11_cart_11 rfl (lv_at hl 2 rfl) ?_
      refine lv_if_lt (tgt := 20) hx hb dX11_cart_12 (by decide) (fun cz21 => ?_) (fun cz21 => ?_)
      · skip
        have bz22 := fb_rng p2
        have zz23 : p2.toInt < (0 : Int) := zi_lt.mp cz21
        refine lv_bipush (v := (-2)) hx hb dX11_cart_20 (by decide) ?_
        rw [hQ]
        exact W.iret (v := (-2 : Int32)) hx hb hr (fun t ht hW => ⟨(-2 : Int32), rfl, trivial, ht⟩) (fun _ h => absurd h List.not_mem_nil) dX11_cart_22
      · skip
        have bz24 := fb_rng p2
        have zz25 : ¬ p2.toInt < (0 : Int) := fun h9 => cz21 (zi_lt.mpr h9)
        refine lv_iload_n hx hb dX11_cart_15 rfl (lv_at hl 2 rfl) ?_
        refine lv_iconst (v := 1) hx hb dX11_cart_16 (by decide) ?_
        refine lv_icmp_le (tgt := 23) hx hb dX11_cart_17 (by decide) (fun cz26 => ?_) (fun cz26 => ?_)
        · skip
          have zz27 : p2.toInt ≤ (1 : Int) := zi_le.mp cz26
          refine lv_iload_n hx hb dX11_cart_23 rfl (lv_at hl 2 rfl) ?_
          refine lv_if_ne (tgt := 39) hx hb dX11_cart_24 (by decide) (fun cz28 => ?_) (fun cz28 => ?_)
          · skip
            have zz29 : ¬ p2.toInt = (0 : Int) := fun h9 => cz28 (zi_eq.mpr h9)
            refine lv_aload_n hx hb dX11_cart_39 rfl (lv_at hl 0 rfl) ?_
            refine va_get (D := (dC, dI)) (ci := 11) (v := .ref (qV 0)) (C := RX11) (T := TX11) (N := 15) hx hb hts (fun w h => List.mem_cons_of_mem _ (List.mem_append_right _ (List.mem_append_left _ h))) hown hK hP 0 rfl rfl 1 (by decide) (hts (.fieldLink RX11 19 "SagMemory" "told" "LSagMemory$Valley;") (wl_mem 0 rfl)) (fun _ h9 => h9) rfl dX11_cart_40 ?_
            refine va_get (D := (dC, dI)) (ci := 10) (v := .ref (qV 4)) (C := RX10) (T := TX10) (N := 16) hx hb hts (fun w h => List.mem_cons_of_mem _ (List.mem_append_right _ (List.mem_append_right _ (List.mem_append_right _ (List.mem_append_left _ h))))) hown hK hP 5 rfl rfl 3 (by decide) (hts (.fieldLink RX11 147 "SagMemory$Valley" "ways" "[I") (wl_mem 5 rfl)) (fun _ h9 => h9) rfl dX11_cart_43 ?_
            refine lv_iload_n hx hb dX11_cart_46 rfl (lv_at hl 1 rfl) ?_
            refine va_iald hx hb hK hP 9 0 rfl rfl (vp_in_iff.mpr ⟨by omega, by omega⟩) dX11_cart_47 ?_
            refine lv_topi (fun xz30 exz30 => ?_)
            rw [hQ]
            exact W.iret (v := xz30) hx hb hr (fun t ht hW => ⟨xz30, rfl, trivial, ht⟩) (fun _ h => absurd h List.not_mem_nil) dX11_cart_48
          · skip
            have zz31 : p2.toInt = (0 : Int) := zi_eq.mp cz28
            refine lv_aload_n hx hb dX11_cart_27 rfl (lv_at hl 0 rfl) ?_
            refine va_get (D := (dC, dI)) (ci := 11) (v := .ref (qV 0)) (C := RX11) (T := TX11) (N := 15) hx hb hts (fun w h => List.mem_cons_of_mem _ (List.mem_append_right _ (List.mem_append_left _ h))) hown hK hP 0 rfl rfl 1 (by decide) (hts (.fieldLink RX11 19 "SagMemory" "told" "LSagMemory$Valley;") (wl_mem 0 rfl)) (fun _ h9 => h9) rfl dX11_cart_28 ?_
            refine va_get (D := (dC, dI)) (ci := 10) (v := .ref (qV 3)) (C := RX10) (T := TX10) (N := 16) hx hb hts (fun w h => List.mem_cons_of_mem _ (List.mem_append_right _ (List.mem_append_right _ (List.mem_append_right _ (List.mem_append_left _ h))))) hown hK hP 5 rfl rfl 2 (by decide) (hts (.fieldLink RX11 144 "SagMemory$Valley" "loads" "[I") (wl_mem 6 rfl)) (fun _ h9 => h9) rfl dX11_cart_31 ?_
            refine lv_iload_n hx hb dX11_cart_34 rfl (lv_at hl 1 rfl) ?_
            refine va_iald hx hb hK hP 8 0 rfl rfl (vp_in_iff.mpr ⟨by omega, by omega⟩) dX11_cart_35 ?_
            refine lv_topi (fun xz32 exz32 => ?_)
            have bxz32 : 0 ≤ xz32.toInt ∧ xz32.toInt ≤ 99 := by rw [exz32]; exact (heV 0) _
            refine lv_goto (tgt := 48) hx hb dX11_cart_36 (by decide) ?_
            rw [hQ]
            exact W.iret (v := xz32) hx hb hr (fun t ht hW => ⟨xz32, rfl, trivial, ht⟩) (fun _ h => absurd h List.not_mem_nil) dX11_cart_48
        · skip
          have zz33 : ¬ p2.toInt ≤ (1 : Int) := fun h9 => cz26 (zi_le.mpr h9)
          refine lv_bipush (v := (-2)) hx hb dX11_cart_20 (by decide) ?_
          rw [hQ]
          exact W.iret (v := (-2 : Int32)) hx hb hr (fun t ht hW => ⟨(-2 : Int32), rfl, trivial, ht⟩) (fun _ h => absurd h List.not_mem_nil) dX11_cart_22
def wk_c_X11_ward : List Cond := .code yX11_ward cX11_ward 3 (some .int) :: ([.fieldLink RX11 19 "SagMemory" "told" "LSagMemory$Valley;", .fieldLink RX11 150 "SagMemory$Valley" "wards" "I", .fieldLink RX11 159 "SagMemory$Valley" "wardTargets" "[I", .fieldLink RX11 156 "SagMemory$Valley" "wardOvers" "[I", .fieldLink RX11 153 "SagMemory$Valley" "wardBridges" "[I"] ++ (wsX110 ++ (wsX100 ++ [])))
theorem wkg_c_X11_ward : wk_c_X11_ward.all goodWord = true := by decide +kernel
set_option maxHeartbeats 4000000 in
set_option maxRecDepth 100000 in
theorem c_X11_ward (l : Launch) (dC : Nat → ClassId) (dI : Nat → Nat → Nat) (k : Nat → ClassId) (qX : Nat → Nat) (tapeX : Nat) (actsX : Nat) (nowX : Nat) (trialX : Nat) (storyX : Nat) (attemptX : Nat) (orderSearchX : Nat) (routeSearchX : Nat) (setSearchX : Nat) (probeX : Nat) (slot0X : Nat) (slot1X : Nat) (slot2X : Nat) (slot3X : Nat) (image0X : Nat) (image1X : Nat) (image2X : Nat) (aX : Nat → Nat → Int32) (qV : Nat → Nat) (vV : Nat → Int32) (bV : Nat → Int32) (cV : Nat → Int32) (wV : Nat → Int32) (aV : Nat → Nat → Int32) (eV : Nat → Nat → Int32) (p1 : Int32) (p2 : Int32) (hbV : Rg 0 3 bV) (hcV : Rg 0 7 cV) (hwV : Rg 0 5 wV) (heV : RgA 0 99 eV) : Met l yX11_ward wk_c_X11_ward ({ frames := 0, cells := 0, slots := 0, locals := 0 }) (va_Pc [.ref (qX 0), .int p1, .int p2] (fun U => va_P (dC, dI) vwCl (List.flatten [(wSag qX k tapeX (qV 0) actsX nowX trialX storyX attemptX orderSearchX routeSearchX setSearchX probeX slot0X slot1X slot2X slot3X image0X image1X image2X aX), (wValley qV k vV bV cV wV aV eV)]) U.heap ∧ va_K (dC, dI) vwCl (tK k) U)) (vp_Si (fun r : Int32 => True)) 0 0 (fun _ => False) := by
  refine Met.ofW (cc := cX11_ward) (maxL := 3) (ret := (some .int)) (by decide) rfl ?_
  intro p e s m args below meth c s₁ B hml hv
  obtain ⟨rfl, hP, hK⟩ := hv
  have hx := B.exec
  have hb := B.bytes
  have hr := B.returns
  have hts := atoms_spec (ws := wk_c_X11_ward) B.pre
  have hown : s.vm.findClass RX11 = some m.cls := findClass_of_methodNamed B.named
  have hlocks := B.notSynchronized
  have hP : va_P (dC, dI) vwCl (List.flatten [(wSag qX k tapeX (qV 0) actsX nowX trialX storyX attemptX orderSearchX routeSearchX setSearchX probeX slot0X slot1X slot2X slot3X image0X image1X image2X aX), (wValley qV k vV bV cV wV aV eV)]) s.heap := hP
  have hl := lv_entry ([.ref (qX 0), .int p1, .int p2]) (n := 3) (Nat.le_of_ble_eq_true rfl)
  rw [lg_entry_eq]
  generalize (lg_sl ([.ref (qX 0), .int p1, .int p2]) ++ List.replicate (3 - (lg_sl ([.ref (qX 0), .int p1, .int p2])).length) Slot.unset).toArray = ls at hl ⊢
  have hl : lv_has ls 3 [(0, .ref (qX 0)), (1, .int p1), (2, .int p2)] := hl
  refine w_gen (fun Q hQ => ?_)
  refine lv_iload_n hx hb dX11_ward_0 rfl (lv_at hl 1 rfl) ?_
  refine lv_if_lt (tgt := 24) hx hb dX11_ward_1 (by decide) (fun cz1 => ?_) (fun cz1 => ?_)
  · skip
    have bz2 := fb_rng p1
    have zz3 : p1.toInt < (0 : Int) := zi_lt.mp cz1
    refine lv_bipush (v := (-2)) hx hb dX11_ward_24 (by decide) ?_
    rw [hQ]
    exact W.iret (v := (-2 : Int32)) hx hb hr (fun t ht hW => ⟨(-2 : Int32), rfl, trivial, ht⟩) (fun _ h => absurd h List.not_mem_nil) dX11_ward_26
  · skip
    have bz4 := fb_rng p1
    have zz5 : ¬ p1.toInt < (0 : Int) := fun h9 => cz1 (zi_lt.mpr h9)
    refine lv_iload_n hx hb dX11_ward_4 rfl (lv_at hl 1 rfl) ?_
    refine lv_aload_n hx hb dX11_ward_5 rfl (lv_at hl 0 rfl) ?_
    refine va_get (D := (dC, dI)) (ci := 11) (v := .ref (qV 0)) (C := RX11) (T := TX11) (N := 15) hx hb hts (fun w h => List.mem_cons_of_mem _ (List.mem_append_right _ (List.mem_append_left _ h))) hown hK hP 0 rfl rfl 1 (by decide) (hts (.fieldLink RX11 19 "SagMemory" "told" "LSagMemory$Valley;") (wl_mem 0 rfl)) (fun _ h9 => h9) rfl dX11_ward_6 ?_
    refine va_get (D := (dC, dI)) (ci := 10) (v := .int (wV 0)) (C := RX10) (T := TX10) (N := 16) hx hb hts (fun w h => List.mem_cons_of_mem _ (List.mem_append_right _ (List.mem_append_right _ (List.mem_append_left _ h)))) hown hK hP 5 rfl rfl 13 (by decide) (hts (.fieldLink RX11 150 "SagMemory$Valley" "wards" "I") (wl_mem 1 rfl)) (fun _ h9 => h9) rfl dX11_ward_9 ?_
    have bz6 := hwV 0
    refine lv_icmp_ge (tgt := 24) hx hb dX11_ward_12 (by decide) (fun cz7 => ?_) (fun cz7 => ?_)
    · skip
      have zz8 : (wV 0).toInt ≤ p1.toInt := zi_le.mp cz7
      refine lv_bipush (v := (-2)) hx hb dX11_ward_24 (by decide) ?_
      rw [hQ]
      exact W.iret (v := (-2 : Int32)) hx hb hr (fun t ht hW => ⟨(-2 : Int32), rfl, trivial, ht⟩) (fun _ h => absurd h List.not_mem_nil) dX11_ward_26
    · skip
      have zz9 : ¬ (wV 0).toInt ≤ p1.toInt := fun h9 => cz7 (zi_le.mpr h9)
      refine lv_iload_n hx hb dX11_ward_15 rfl (lv_at hl 2 rfl) ?_
      refine lv_if_lt (tgt := 24) hx hb dX11_ward_16 (by decide) (fun cz10 => ?_) (fun cz10 => ?_)
      · skip
        have bz11 := fb_rng p2
        have zz12 : p2.toInt < (0 : Int) := zi_lt.mp cz10
        refine lv_bipush (v := (-2)) hx hb dX11_ward_24 (by decide) ?_
        rw [hQ]
        exact W.iret (v := (-2 : Int32)) hx hb hr (fun t ht hW => ⟨(-2 : Int32), rfl, trivial, ht⟩) (fun _ h => absurd h List.not_mem_nil) dX11_ward_26
      · skip
        have bz13 := fb_rng p2
        have zz14 : ¬ p2.toInt < (0 : Int) := fun h9 => cz10 (zi_lt.mpr h9)
        refine lv_iload_n hx hb dX11_ward_19 rfl (lv_at hl 2 rfl) ?_
        refine lv_iconst (v := 2) hx hb dX11_ward_20 (by decide) ?_
        refine lv_icmp_le (tgt := 27) hx hb dX11_ward_21 (by decide) (fun cz15 => ?_) (fun cz15 => ?_)
        · skip
          have zz16 : p2.toInt ≤ (2 : Int) := zi_le.mp cz15
          refine lv_iload_n hx hb dX11_ward_27 rfl (lv_at hl 2 rfl) ?_
          refine lv_if_ne (tgt := 41) hx hb dX11_ward_28 (by decide) (fun cz17 => ?_) (fun cz17 => ?_)
          · skip
            have zz18 : ¬ p2.toInt = (0 : Int) := fun h9 => cz17 (zi_eq.mpr h9)
            refine lv_iload_n hx hb dX11_ward_41 rfl (lv_at hl 2 rfl) ?_
            refine lv_iconst (v := 1) hx hb dX11_ward_42 (by decide) ?_
            refine lv_icmp_ne (tgt := 58) hx hb dX11_ward_43 (by decide) (fun cz19 => ?_) (fun cz19 => ?_)
            · skip
              have zz20 : ¬ p2.toInt = (1 : Int) := fun h9 => cz19 (zi_eq.mpr h9)
              refine lv_aload_n hx hb dX11_ward_58 rfl (lv_at hl 0 rfl) ?_
              refine va_get (D := (dC, dI)) (ci := 11) (v := .ref (qV 0)) (C := RX11) (T := TX11) (N := 15) hx hb hts (fun w h => List.mem_cons_of_mem _ (List.mem_append_right _ (List.mem_append_left _ h))) hown hK hP 0 rfl rfl 1 (by decide) (hts (.fieldLink RX11 19 "SagMemory" "told" "LSagMemory$Valley;") (wl_mem 0 rfl)) (fun _ h9 => h9) rfl dX11_ward_59 ?_
              refine va_get (D := (dC, dI)) (ci := 10) (v := .ref (qV 7)) (C := RX10) (T := TX10) (N := 16) hx hb hts (fun w h => List.mem_cons_of_mem _ (List.mem_append_right _ (List.mem_append_right _ (List.mem_append_left _ h)))) hown hK hP 5 rfl rfl 6 (by decide) (hts (.fieldLink RX11 159 "SagMemory$Valley" "wardTargets" "[I") (wl_mem 2 rfl)) (fun _ h9 => h9) rfl dX11_ward_62 ?_
              refine lv_iload_n hx hb dX11_ward_65 rfl (lv_at hl 1 rfl) ?_
              refine va_iald hx hb hK hP 12 0 rfl rfl (vp_in_iff.mpr ⟨by omega, by omega⟩) dX11_ward_66 ?_
              refine lv_topi (fun xz21 exz21 => ?_)
              rw [hQ]
              exact W.iret (v := xz21) hx hb hr (fun t ht hW => ⟨xz21, rfl, trivial, ht⟩) (fun _ h => absurd h List.not_mem_nil) dX11_ward_67
            · skip
              have zz22 : p2.toInt = (1 : Int) := zi_eq.mp cz19
              refine lv_aload_n hx hb dX11_ward_46 rfl (lv_at hl 0 rfl) ?_
              refine va_get (D := (dC, dI)) (ci := 11) (v := .ref (qV 0)) (C := RX11) (T := TX11) (N := 15) hx hb hts (fun w h => List.mem_cons_of_mem _ (List.mem_append_right _ (List.mem_append_left _ h))) hown hK hP 0 rfl rfl 1 (by decide) (hts (.fieldLink RX11 19 "SagMemory" "told" "LSagMemory$Valley;") (wl_mem 0 rfl)) (fun _ h9 => h9) rfl dX11_ward_47 ?_
              refine va_get (D := (dC, dI)) (ci := 10) (v := .ref (qV 6)) (C := RX10) (T := TX10) (N := 16) hx hb hts (fun w h => List.mem_cons_of_mem _ (List.mem_append_right _ (List.mem_append_right _ (List.mem_append_left _ h)))) hown hK hP 5 rfl rfl 5 (by decide) (hts (.fieldLink RX11 156 "SagMemory$Valley" "wardOvers" "[I") (wl_mem 3 rfl)) (fun _ h9 => h9) rfl dX11_ward_50 ?_
              refine lv_iload_n hx hb dX11_ward_53 rfl (lv_at hl 1 rfl) ?_
              refine va_iald hx hb hK hP 11 0 rfl rfl (vp_in_iff.mpr ⟨by omega, by omega⟩) dX11_ward_54 ?_
              refine lv_topi (fun xz23 exz23 => ?_)
              refine lv_goto (tgt := 67) hx hb dX11_ward_55 (by decide) ?_
              rw [hQ]
              exact W.iret (v := xz23) hx hb hr (fun t ht hW => ⟨xz23, rfl, trivial, ht⟩) (fun _ h => absurd h List.not_mem_nil) dX11_ward_67
          · skip
            have zz24 : p2.toInt = (0 : Int) := zi_eq.mp cz17
            refine lv_aload_n hx hb dX11_ward_31 rfl (lv_at hl 0 rfl) ?_
            refine va_get (D := (dC, dI)) (ci := 11) (v := .ref (qV 0)) (C := RX11) (T := TX11) (N := 15) hx hb hts (fun w h => List.mem_cons_of_mem _ (List.mem_append_right _ (List.mem_append_left _ h))) hown hK hP 0 rfl rfl 1 (by decide) (hts (.fieldLink RX11 19 "SagMemory" "told" "LSagMemory$Valley;") (wl_mem 0 rfl)) (fun _ h9 => h9) rfl dX11_ward_32 ?_
            refine va_get (D := (dC, dI)) (ci := 10) (v := .ref (qV 5)) (C := RX10) (T := TX10) (N := 16) hx hb hts (fun w h => List.mem_cons_of_mem _ (List.mem_append_right _ (List.mem_append_right _ (List.mem_append_left _ h)))) hown hK hP 5 rfl rfl 4 (by decide) (hts (.fieldLink RX11 153 "SagMemory$Valley" "wardBridges" "[I") (wl_mem 4 rfl)) (fun _ h9 => h9) rfl dX11_ward_35 ?_
            refine lv_iload_n hx hb dX11_ward_38 rfl (lv_at hl 1 rfl) ?_
            refine va_iald hx hb hK hP 10 0 rfl rfl (vp_in_iff.mpr ⟨by omega, by omega⟩) dX11_ward_39 ?_
            refine lv_topi (fun xz25 exz25 => ?_)
            rw [hQ]
            exact W.iret (v := xz25) hx hb hr (fun t ht hW => ⟨xz25, rfl, trivial, ht⟩) (fun _ h => absurd h List.not_mem_nil) dX11_ward_40
        · skip
          have zz26 : ¬ p2.toInt ≤ (2 : Int) := fun h9 => cz15 (zi_le.mpr h9)
          refine lv_bipush (v := (-2)) hx hb dX11_ward_24 (by decide) ?_
          rw [hQ]
          exact W.iret (v := (-2 : Int32)) hx hb hr (fun t ht hW => ⟨(-2 : Int32), rfl, trivial, ht⟩) (fun _ h => absurd h List.not_mem_nil) dX11_ward_26
def wk_c_X11_cold : List Cond := .code yX11_cold cX11_cold 2 (some .int) :: ([.fieldLink RX11 19 "SagMemory" "told" "LSagMemory$Valley;", .methodLink RX11 141 yX10_hasCart, .instanceMethod yX10_hasCart, .selects RX10 yX10_hasCart yX10_hasCart, .initialized RX10, .fieldLink RX11 33 "SagMemory" "now" "LSagMemory$Plan;", .fieldLink RX11 162 "SagMemory$Plan" "cold" "I"] ++ (wsX110 ++ (wk_c_X10_hasCart ++ (wsX30 ++ []))))
theorem wkg_c_X11_cold : wk_c_X11_cold.all goodWord = true := by decide +kernel
set_option maxHeartbeats 4000000 in
set_option maxRecDepth 100000 in
theorem c_X11_cold (l : Launch) (dC : Nat → ClassId) (dI : Nat → Nat → Nat) (k : Nat → ClassId) (qX : Nat → Nat) (tapeX : Nat) (actsX : Nat) (trialX : Nat) (storyX : Nat) (attemptX : Nat) (orderSearchX : Nat) (routeSearchX : Nat) (setSearchX : Nat) (probeX : Nat) (slot0X : Nat) (slot1X : Nat) (slot2X : Nat) (slot3X : Nat) (image0X : Nat) (image1X : Nat) (image2X : Nat) (aX : Nat → Nat → Int32) (qV : Nat → Nat) (vV : Nat → Int32) (bV : Nat → Int32) (cV : Nat → Int32) (wV : Nat → Int32) (aV : Nat → Nat → Int32) (eV : Nat → Nat → Int32) (qN : Nat → Nat) (vN : Nat → Int32) (aN : Nat → Nat → Int32) (eN : Nat → Nat → Int32) (p1 : Int32) (hbV : Rg 0 3 bV) (hcV : Rg 0 7 cV) (hwV : Rg 0 5 wV) (heV : RgA 0 99 eV) (heN : RgA 0 99 eN) : Met l yX11_cold wk_c_X11_cold ({ frames := 1, cells := 0, slots := 0, locals := 21 }) (va_Pc [.ref (qX 0), .int p1] (fun U => va_P (dC, dI) vwCl (List.flatten [(wSag qX k tapeX (qV 0) actsX (qN 0) trialX storyX attemptX orderSearchX routeSearchX setSearchX probeX slot0X slot1X slot2X slot3X image0X image1X image2X aX), (wValley qV k vV bV cV wV aV eV), (wPlan qN k vN aN eN)]) U.heap ∧ va_K (dC, dI) vwCl (tK k) U)) (vp_Si (fun r : Int32 => True)) 0 0 (fun _ => False) := by
  refine Met.ofW (cc := cX11_cold) (maxL := 2) (ret := (some .int)) (by decide) rfl ?_
  intro p e s m args below meth c s₁ B hml hv
  obtain ⟨rfl, hP, hK⟩ := hv
  have hx := B.exec
  have hb := B.bytes
  have hr := B.returns
  have hts := atoms_spec (ws := wk_c_X11_cold) B.pre
  have hown : s.vm.findClass RX11 = some m.cls := findClass_of_methodNamed B.named
  have hlocks := B.notSynchronized
  have hP : va_P (dC, dI) vwCl (List.flatten [(wSag qX k tapeX (qV 0) actsX (qN 0) trialX storyX attemptX orderSearchX routeSearchX setSearchX probeX slot0X slot1X slot2X slot3X image0X image1X image2X aX), (wValley qV k vV bV cV wV aV eV), (wPlan qN k vN aN eN)]) s.heap := hP
  have hl := lv_entry ([.ref (qX 0), .int p1]) (n := 2) (Nat.le_of_ble_eq_true rfl)
  rw [lg_entry_eq]
  generalize (lg_sl ([.ref (qX 0), .int p1]) ++ List.replicate (2 - (lg_sl ([.ref (qX 0), .int p1])).length) Slot.unset).toArray = ls at hl ⊢
  have hl : lv_has ls 2 [(0, .ref (qX 0)), (1, .int p1)] := hl
  refine w_gen (fun Q hQ => ?_)
  refine lv_aload_n hx hb dX11_cold_0 rfl (lv_at hl 0 rfl) ?_
  refine va_get (D := (dC, dI)) (ci := 11) (v := .ref (qV 0)) (C := RX11) (T := TX11) (N := 15) hx hb hts (fun w h => List.mem_cons_of_mem _ (List.mem_append_right _ (List.mem_append_left _ h))) hown hK hP 0 rfl rfl 1 (by decide) (hts (.fieldLink RX11 19 "SagMemory" "told" "LSagMemory$Valley;") (wl_mem 0 rfl)) (fun _ h9 => h9) rfl dX11_cold_1 ?_
  refine lv_iload_n hx hb dX11_cold_4 rfl (lv_at hl 1 rfl) ?_
  have hPc := hP.sub (ws' := (List.flatten [(wValley qV k vV bV cV wV aV eV)])) [5, 6, 7, 8, 9, 10, 11, 12] rfl
  refine vp_callSi (va_Run.run (va_runV (As := [.int p1]) (rest := []) ⟨hx, hb, hml, hown, hts⟩ (c_X10_hasCart l dC dI k qV vV bV cV wV aV eV p1 hbV hcV hwV heV) (cwV 1 hts (gk_V (wl_mem 1 rfl) (wl_mem 2 rfl) (wl_mem 3 rfl) (wl_mem 4 rfl) (fun w h => List.mem_cons_of_mem _ (List.mem_append_right _ (List.mem_append_right _ (List.mem_append_left _ h)))) wkg_c_X10_hasCart) rfl rfl rfl (by decide +kernel) ⟨Nat.le_of_ble_eq_true rfl, Nat.le_of_ble_eq_true rfl⟩) ⟨fun a U g mk q => by obtain ⟨q0, qP, qK⟩ := q; exact ⟨q0, qP, va_K.moved (u := U) (U := U.calling g mk a) (Vm.Alike.refl U.vm) qK⟩, va_recv hK hPc (ci := 10) (q0 := 0) rfl rfl, fun U hU hW => ⟨rfl, by rw [hU]; exact hPc, va_K.moved hW.alike hK⟩⟩ rfl rfl hl.1 rfl (lv_room (Nat.le_of_ble_eq_true rfl)) dX11_cold_5 ⟨Nat.le_of_ble_eq_true rfl, Nat.le_of_ble_eq_true rfl⟩)) (fun rz2 gz1 => ?_)
  clear hPc
  rcases gz1 with ⟨er, cz3⟩ | ⟨er, cz4, cz5⟩ | ⟨er, cz6, cz7⟩
  · obtain rfl := er.symm
    have bz8 := fb_rng p1
    have zz9 : p1.toInt < (0 : Int) := zi_lt.mp cz3
    refine lv_if_ne (tgt := 14) hx hb dX11_cold_8 (by decide) (fun cz10 => ?_) (fun cz10 => ?_)
    · skip
      exact absurd cz10 (by decide)
    · skip
      refine lv_bipush (v := (-2)) hx hb dX11_cold_11 (by decide) ?_
      rw [hQ]
      exact W.iret (v := (-2 : Int32)) hx hb hr (fun t ht hW => ⟨(-2 : Int32), rfl, trivial, ht⟩) (fun _ h => absurd h List.not_mem_nil) dX11_cold_13
  · obtain rfl := er.symm
    have bz11 := fb_rng p1
    have zz12 : ¬ p1.toInt < (0 : Int) := fun h9 => cz4 (zi_lt.mpr h9)
    have bz13 := hcV 0
    have zz14 : (cV 0).toInt ≤ p1.toInt := zi_le.mp cz5
    refine lv_if_ne (tgt := 14) hx hb dX11_cold_8 (by decide) (fun cz15 => ?_) (fun cz15 => ?_)
    · skip
      exact absurd cz15 (by decide)
    · skip
      refine lv_bipush (v := (-2)) hx hb dX11_cold_11 (by decide) ?_
      rw [hQ]
      exact W.iret (v := (-2 : Int32)) hx hb hr (fun t ht hW => ⟨(-2 : Int32), rfl, trivial, ht⟩) (fun _ h => absurd h List.not_mem_nil) dX11_cold_13
  · obtain rfl := er.symm
    have bz16 := fb_rng p1
    have zz17 : ¬ p1.toInt < (0 : Int) := fun h9 => cz6 (zi_lt.mpr h9)
    have bz18 := hcV 0
    have zz19 : ¬ (cV 0).toInt ≤ p1.toInt := fun h9 => cz7 (zi_le.mpr h9)
    refine lv_if_ne (tgt := 14) hx hb dX11_cold_8 (by decide) (fun cz20 => ?_) (fun cz20 => ?_)
    · skip
      refine lv_aload_n hx hb dX11_cold_14 rfl (lv_at hl 0 rfl) ?_
      refine va_get (D := (dC, dI)) (ci := 11) (v := .ref (qN 0)) (C := RX11) (T := TX11) (N := 15) hx hb hts (fun w h => List.mem_cons_of_mem _ (List.mem_append_right _ (List.mem_append_left _ h))) hown hK hP 0 rfl rfl 3 (by decide) (hts (.fieldLink RX11 33 "SagMemory" "now" "LSagMemory$Plan;") (wl_mem 5 rfl)) (fun _ h9 => h9) rfl dX11_cold_15 ?_
      refine va_get (D := (dC, dI)) (ci := 3) (v := .int (vN 1)) (C := RX3) (T := TX3) (N := 4) hx hb hts (fun w h => List.mem_cons_of_mem _ (List.mem_append_right _ (List.mem_append_right _ (List.mem_append_right _ (List.mem_append_left _ h))))) hown hK hP 13 rfl rfl 3 (by decide) (hts (.fieldLink RX11 162 "SagMemory$Plan" "cold" "I") (wl_mem 6 rfl)) (fun _ h9 => h9) rfl dX11_cold_18 ?_
      refine lv_iload_n hx hb dX11_cold_21 rfl (lv_at hl 1 rfl) ?_
      refine lv_ishr hx hb dX11_cold_22 ?_
      refine lv_topi (fun xz21 exz21 => ?_)
      refine lv_iconst (v := 1) hx hb dX11_cold_23 (by decide) ?_
      refine lv_iand hx hb dX11_cold_24 ?_
      refine lv_topi (fun xz22 exz22 => ?_)
      have bxz22 : 0 ≤ xz22.toInt ∧ xz22.toInt ≤ 1 := by rw [exz22]; exact zand _ 1 2 (by decide) (by decide) (by decide)
      rw [hQ]
      exact W.iret (v := xz22) hx hb hr (fun t ht hW => ⟨xz22, rfl, trivial, ht⟩) (fun _ h => absurd h List.not_mem_nil) dX11_cold_25
    · skip
      exact absurd cz20 (by decide)
def wk_c_X11_goes : List Cond := .code yX11_goes cX11_goes 2 (some .int) :: ([.fieldLink RX11 19 "SagMemory" "told" "LSagMemory$Valley;", .methodLink RX11 141 yX10_hasCart, .instanceMethod yX10_hasCart, .selects RX10 yX10_hasCart yX10_hasCart, .initialized RX10, .fieldLink RX11 45 "SagMemory" "story" "LSagMemory$Story;", .methodLink RX11 165 yX8_behind, .instanceMethod yX8_behind, .selects RX8 yX8_behind yX8_behind, .initialized RX8, .fieldLink RX11 169 "SagMemory$State" "went" "I"] ++ (wsX110 ++ (wk_c_X10_hasCart ++ (wk_c_X8_behind ++ (wsX70 ++ [])))))
theorem wkg_c_X11_goes : wk_c_X11_goes.all goodWord = true := by decide +kernel
set_option maxHeartbeats 4000000 in
set_option maxRecDepth 100000 in
theorem c_X11_goes (l : Launch) (dC : Nat → ClassId) (dI : Nat → Nat → Nat) (k : Nat → ClassId) (qX : Nat → Nat) (tapeX : Nat) (actsX : Nat) (nowX : Nat) (trialX : Nat) (attemptX : Nat) (orderSearchX : Nat) (routeSearchX : Nat) (setSearchX : Nat) (probeX : Nat) (slot0X : Nat) (slot1X : Nat) (slot2X : Nat) (slot3X : Nat) (image0X : Nat) (image1X : Nat) (image2X : Nat) (aX : Nat → Nat → Int32) (qV : Nat → Nat) (vV : Nat → Int32) (bV : Nat → Int32) (cV : Nat → Int32) (wV : Nat → Int32) (aV : Nat → Nat → Int32) (eV : Nat → Nat → Int32) (qY : Nat → Nat) (sY : Nat → Nat → Nat) (planY : Nat) (vY : Nat → Nat → Int32) (nY : Nat → Nat → Int32) (aY : Nat → Nat → Nat → Int32) (p1 : Int32) (hbV : Rg 0 3 bV) (hcV : Rg 0 7 cV) (hwV : Rg 0 5 wV) (heV : RgA 0 99 eV) (hnY : ∀ t9, Rg 0 8 (nY t9)) : Met l yX11_goes wk_c_X11_goes ({ frames := 1, cells := 0, slots := 0, locals := 21 }) (va_Pc [.ref (qX 0), .int p1] (fun U => va_P (dC, dI) vwCl (List.flatten [(wSag qX k tapeX (qV 0) actsX nowX trialX (qY 0) attemptX orderSearchX routeSearchX setSearchX probeX slot0X slot1X slot2X slot3X image0X image1X image2X aX), (wValley qV k vV bV cV wV aV eV), (wStoO qY k (qV 0) planY (sY 0 0) (sY 1 0) (sY 2 0) (sY 3 0) (sY 4 0) (sY 5 0) (sY 6 0) (sY 7 0)), (wState (sY 0) k (vY 0) (nY 0) (aY 0)), (wState (sY 1) k (vY 1) (nY 1) (aY 1)), (wState (sY 2) k (vY 2) (nY 2) (aY 2)), (wState (sY 3) k (vY 3) (nY 3) (aY 3)), (wState (sY 4) k (vY 4) (nY 4) (aY 4)), (wState (sY 5) k (vY 5) (nY 5) (aY 5)), (wState (sY 6) k (vY 6) (nY 6) (aY 6)), (wState (sY 7) k (vY 7) (nY 7) (aY 7))]) U.heap ∧ va_K (dC, dI) vwCl (tK k) U)) (vp_Si (fun r : Int32 => True)) 0 0 (fun _ => False) := by
  refine Met.ofW (cc := cX11_goes) (maxL := 2) (ret := (some .int)) (by decide) rfl ?_
  intro p e s m args below meth c s₁ B hml hv
  obtain ⟨rfl, hP, hK⟩ := hv
  have hx := B.exec
  have hb := B.bytes
  have hr := B.returns
  have hts := atoms_spec (ws := wk_c_X11_goes) B.pre
  have hown : s.vm.findClass RX11 = some m.cls := findClass_of_methodNamed B.named
  have hlocks := B.notSynchronized
  have hP : va_P (dC, dI) vwCl (List.flatten [(wSag qX k tapeX (qV 0) actsX nowX trialX (qY 0) attemptX orderSearchX routeSearchX setSearchX probeX slot0X slot1X slot2X slot3X image0X image1X image2X aX), (wValley qV k vV bV cV wV aV eV), (wStoO qY k (qV 0) planY (sY 0 0) (sY 1 0) (sY 2 0) (sY 3 0) (sY 4 0) (sY 5 0) (sY 6 0) (sY 7 0)), (wState (sY 0) k (vY 0) (nY 0) (aY 0)), (wState (sY 1) k (vY 1) (nY 1) (aY 1)), (wState (sY 2) k (vY 2) (nY 2) (aY 2)), (wState (sY 3) k (vY 3) (nY 3) (aY 3)), (wState (sY 4) k (vY 4) (nY 4) (aY 4)), (wState (sY 5) k (vY 5) (nY 5) (aY 5)), (wState (sY 6) k (vY 6) (nY 6) (aY 6)), (wState (sY 7) k (vY 7) (nY 7) (aY 7))]) s.heap := hP
  have hl := lv_entry ([.ref (qX 0), .int p1]) (n := 2) (Nat.le_of_ble_eq_true rfl)
  rw [lg_entry_eq]
  generalize (lg_sl ([.ref (qX 0), .int p1]) ++ List.replicate (2 - (lg_sl ([.ref (qX 0), .int p1])).length) Slot.unset).toArray = ls at hl ⊢
  have hl : lv_has ls 2 [(0, .ref (qX 0)), (1, .int p1)] := hl
  refine w_gen (fun Q hQ => ?_)
  refine lv_aload_n hx hb dX11_goes_0 rfl (lv_at hl 0 rfl) ?_
  refine va_get (D := (dC, dI)) (ci := 11) (v := .ref (qV 0)) (C := RX11) (T := TX11) (N := 15) hx hb hts (fun w h => List.mem_cons_of_mem _ (List.mem_append_right _ (List.mem_append_left _ h))) hown hK hP 0 rfl rfl 1 (by decide) (hts (.fieldLink RX11 19 "SagMemory" "told" "LSagMemory$Valley;") (wl_mem 0 rfl)) (fun _ h9 => h9) rfl dX11_goes_1 ?_
  refine lv_iload_n hx hb dX11_goes_4 rfl (lv_at hl 1 rfl) ?_
  have hPc := hP.sub (ws' := (List.flatten [(wValley qV k vV bV cV wV aV eV)])) [5, 6, 7, 8, 9, 10, 11, 12] rfl
  refine vp_callSi (va_Run.run (va_runV (As := [.int p1]) (rest := []) ⟨hx, hb, hml, hown, hts⟩ (c_X10_hasCart l dC dI k qV vV bV cV wV aV eV p1 hbV hcV hwV heV) (cwV 1 hts (gk_V (wl_mem 1 rfl) (wl_mem 2 rfl) (wl_mem 3 rfl) (wl_mem 4 rfl) (fun w h => List.mem_cons_of_mem _ (List.mem_append_right _ (List.mem_append_right _ (List.mem_append_left _ h)))) wkg_c_X10_hasCart) rfl rfl rfl (by decide +kernel) ⟨Nat.le_of_ble_eq_true rfl, Nat.le_of_ble_eq_true rfl⟩) ⟨fun a U g mk q => by obtain ⟨q0, qP, qK⟩ := q; exact ⟨q0, qP, va_K.moved (u := U) (U := U.calling g mk a) (Vm.Alike.refl U.vm) qK⟩, va_recv hK hPc (ci := 10) (q0 := 0) rfl rfl, fun U hU hW => ⟨rfl, by rw [hU]; exact hPc, va_K.moved hW.alike hK⟩⟩ rfl rfl hl.1 rfl (lv_room (Nat.le_of_ble_eq_true rfl)) dX11_goes_5 ⟨Nat.le_of_ble_eq_true rfl, Nat.le_of_ble_eq_true rfl⟩)) (fun rz2 gz1 => ?_)
  clear hPc
  rcases gz1 with ⟨er, cz3⟩ | ⟨er, cz4, cz5⟩ | ⟨er, cz6, cz7⟩
  · obtain rfl := er.symm
    have bz8 := fb_rng p1
    have zz9 : p1.toInt < (0 : Int) := zi_lt.mp cz3
    refine lv_if_eq (tgt := 25) hx hb dX11_goes_8 (by decide) (fun cz10 => ?_) (fun cz10 => ?_)
    · skip
      refine lv_bipush (v := (-2)) hx hb dX11_goes_25 (by decide) ?_
      rw [hQ]
      exact W.iret (v := (-2 : Int32)) hx hb hr (fun t ht hW => ⟨(-2 : Int32), rfl, trivial, ht⟩) (fun _ h => absurd h List.not_mem_nil) dX11_goes_27
    · skip
      exact absurd cz10 (by decide)
  · obtain rfl := er.symm
    have bz11 := fb_rng p1
    have zz12 : ¬ p1.toInt < (0 : Int) := fun h9 => cz4 (zi_lt.mpr h9)
    have bz13 := hcV 0
    have zz14 : (cV 0).toInt ≤ p1.toInt := zi_le.mp cz5
    refine lv_if_eq (tgt := 25) hx hb dX11_goes_8 (by decide) (fun cz15 => ?_) (fun cz15 => ?_)
    · skip
      refine lv_bipush (v := (-2)) hx hb dX11_goes_25 (by decide) ?_
      rw [hQ]
      exact W.iret (v := (-2 : Int32)) hx hb hr (fun t ht hW => ⟨(-2 : Int32), rfl, trivial, ht⟩) (fun _ h => absurd h List.not_mem_nil) dX11_goes_27
    · skip
      exact absurd cz15 (by decide)
  · obtain rfl := er.symm
    have bz16 := fb_rng p1
    have zz17 : ¬ p1.toInt < (0 : Int) := fun h9 => cz6 (zi_lt.mpr h9)
    have bz18 := hcV 0
    have zz19 : ¬ (cV 0).toInt ≤ p1.toInt := fun h9 => cz7 (zi_le.mpr h9)
    refine lv_if_eq (tgt := 25) hx hb dX11_goes_8 (by decide) (fun cz20 => ?_) (fun cz20 => ?_)
    · skip
      exact absurd cz20 (by decide)
    · skip
      refine lv_aload_n hx hb dX11_goes_11 rfl (lv_at hl 0 rfl) ?_
      refine va_get (D := (dC, dI)) (ci := 11) (v := .ref (qY 0)) (C := RX11) (T := TX11) (N := 15) hx hb hts (fun w h => List.mem_cons_of_mem _ (List.mem_append_right _ (List.mem_append_left _ h))) hown hK hP 0 rfl rfl 5 (by decide) (hts (.fieldLink RX11 45 "SagMemory" "story" "LSagMemory$Story;") (wl_mem 5 rfl)) (fun _ h9 => h9) rfl dX11_goes_12 ?_
      refine lv_iload_n hx hb dX11_goes_15 rfl (lv_at hl 1 rfl) ?_
      have hPc : va_P (dC, dI) vwCl (List.flatten [(wStoO qY k (qV 0) planY (sY 0 0) (sY 1 0) (sY 2 0) (sY 3 0) (sY 4 0) (sY 5 0) (sY 6 0) (sY 7 0)), (wState (sY 0) k (vY 0) (nY 0) (aY 0)), (wState (sY 1) k (vY 1) (nY 1) (aY 1)), (wState (sY 2) k (vY 2) (nY 2) (aY 2)), (wState (sY 3) k (vY 3) (nY 3) (aY 3)), (wState (sY 4) k (vY 4) (nY 4) (aY 4)), (wState (sY 5) k (vY 5) (nY 5) (aY 5)), (wState (sY 6) k (vY 6) (nY 6) (aY 6)), (wState (sY 7) k (vY 7) (nY 7) (aY 7))]) s.heap := wc_subP0 hP [2, 3, 4, 5, 6, 7, 8, 9, 10] rfl
      refine va_csr (va_Run.run (va_runV (As := [.int p1]) (rest := []) ⟨hx, hb, hml, hown, hts⟩ (c_X8_behind l dC dI k qY sY (qV 0) planY vY nY aY p1 hnY) (cwV 1 hts (gk_V (wl_mem 6 rfl) (wl_mem 7 rfl) (wl_mem 8 rfl) (wl_mem 9 rfl) (fun w h => List.mem_cons_of_mem _ (List.mem_append_right _ (List.mem_append_right _ (List.mem_append_right _ (List.mem_append_left _ h))))) wkg_c_X8_behind) rfl rfl rfl (by decide +kernel) ⟨Nat.le_of_ble_eq_true rfl, Nat.le_of_ble_eq_true rfl⟩) ⟨fun a U g mk q => by obtain ⟨q0, qP, qK⟩ := q; exact ⟨q0, qP, va_K.moved (u := U) (U := U.calling g mk a) (Vm.Alike.refl U.vm) qK⟩, va_recv hK hPc (ci := 8) (q0 := 0) rfl rfl, fun U hU hW => ⟨rfl, by rw [hU]; exact hPc, va_K.moved hW.alike hK⟩⟩ rfl rfl hl.1 rfl (lv_room (Nat.le_of_ble_eq_true rfl)) dX11_goes_16 ⟨Nat.le_of_ble_eq_true rfl, Nat.le_of_ble_eq_true rfl⟩)) (fun rz22 gz21 => ?_)
      clear hPc
      rcases gz21 with ⟨rfl, cz23⟩ | ⟨rfl, cz24, cz25⟩ | ⟨rfl, cz26, cz27, cz28⟩ | ⟨rfl, cz29, cz30, cz31⟩ | ⟨rfl, cz32, cz33, cz34⟩ | ⟨rfl, cz35, cz36, cz37⟩ | ⟨rfl, cz38, cz39, cz40⟩ | ⟨rfl, cz41, cz42, cz43⟩ | ⟨rfl, cz44, cz45, cz46⟩
      · skip
        have zz47 : p1.toInt < (0 : Int) := zi_lt.mp cz23
        omega
      · skip
        have zz48 : ¬ p1.toInt < (0 : Int) := fun h9 => cz24 (zi_lt.mpr h9)
        have zz49 : (7 : Int) ≤ p1.toInt := zi_le.mp cz25
        omega
      · skip
        have zz50 : ¬ p1.toInt < (0 : Int) := fun h9 => cz26 (zi_lt.mpr h9)
        have zz51 : ¬ (7 : Int) ≤ p1.toInt := fun h9 => cz27 (zi_le.mpr h9)
        have zz52 : p1.toInt = (0 : Int) := zi_eq.mp cz28
        refine W.eq (g2 := F0 m 19 ls [.ref (sY 1 0)]) rfl ?_
        refine va_get (D := (dC, dI)) (ci := 7) (v := .int ((vY 1) 3)) (C := RX7) (T := TX7) (N := 9) hx hb hts (fun w h => List.mem_cons_of_mem _ (List.mem_append_right _ (List.mem_append_right _ (List.mem_append_right _ (List.mem_append_right _ (List.mem_append_left _ h)))))) hown hK hP 26 rfl rfl 4 (by decide) (hts (.fieldLink RX11 169 "SagMemory$State" "went" "I") (wl_mem 10 rfl)) (fun _ h9 => h9) rfl dX11_goes_19 ?_
        refine lv_goto (tgt := 27) hx hb dX11_goes_22 (by decide) ?_
        rw [hQ]
        exact W.iret (v := ((vY 1) 3)) hx hb hr (fun t ht hW => ⟨((vY 1) 3), rfl, trivial, ht⟩) (fun _ h => absurd h List.not_mem_nil) dX11_goes_27
      · skip
        have zz53 : ¬ p1.toInt < (0 : Int) := fun h9 => cz29 (zi_lt.mpr h9)
        have zz54 : ¬ (7 : Int) ≤ p1.toInt := fun h9 => cz30 (zi_le.mpr h9)
        have zz55 : p1.toInt = (1 : Int) := zi_eq.mp cz31
        refine W.eq (g2 := F0 m 19 ls [.ref (sY 2 0)]) rfl ?_
        refine va_get (D := (dC, dI)) (ci := 7) (v := .int ((vY 2) 3)) (C := RX7) (T := TX7) (N := 9) hx hb hts (fun w h => List.mem_cons_of_mem _ (List.mem_append_right _ (List.mem_append_right _ (List.mem_append_right _ (List.mem_append_right _ (List.mem_append_left _ h)))))) hown hK hP 37 rfl rfl 4 (by decide) (hts (.fieldLink RX11 169 "SagMemory$State" "went" "I") (wl_mem 10 rfl)) (fun _ h9 => h9) rfl dX11_goes_19 ?_
        refine lv_goto (tgt := 27) hx hb dX11_goes_22 (by decide) ?_
        rw [hQ]
        exact W.iret (v := ((vY 2) 3)) hx hb hr (fun t ht hW => ⟨((vY 2) 3), rfl, trivial, ht⟩) (fun _ h => absurd h List.not_mem_nil) dX11_goes_27
      · skip
        have zz56 : ¬ p1.toInt < (0 : Int) := fun h9 => cz32 (zi_lt.mpr h9)
        have zz57 : ¬ (7 : Int) ≤ p1.toInt := fun h9 => cz33 (zi_le.mpr h9)
        have zz58 : p1.toInt = (2 : Int) := zi_eq.mp cz34
        refine W.eq (g2 := F0 m 19 ls [.ref (sY 3 0)]) rfl ?_
        refine va_get (D := (dC, dI)) (ci := 7) (v := .int ((vY 3) 3)) (C := RX7) (T := TX7) (N := 9) hx hb hts (fun w h => List.mem_cons_of_mem _ (List.mem_append_right _ (List.mem_append_right _ (List.mem_append_right _ (List.mem_append_right _ (List.mem_append_left _ h)))))) hown hK hP 48 rfl rfl 4 (by decide) (hts (.fieldLink RX11 169 "SagMemory$State" "went" "I") (wl_mem 10 rfl)) (fun _ h9 => h9) rfl dX11_goes_19 ?_
        refine lv_goto (tgt := 27) hx hb dX11_goes_22 (by decide) ?_
        rw [hQ]
        exact W.iret (v := ((vY 3) 3)) hx hb hr (fun t ht hW => ⟨((vY 3) 3), rfl, trivial, ht⟩) (fun _ h => absurd h List.not_mem_nil) dX11_goes_27
      · skip
        have zz59 : ¬ p1.toInt < (0 : Int) := fun h9 => cz35 (zi_lt.mpr h9)
        have zz60 : ¬ (7 : Int) ≤ p1.toInt := fun h9 => cz36 (zi_le.mpr h9)
        have zz61 : p1.toInt = (3 : Int) := zi_eq.mp cz37
        refine W.eq (g2 := F0 m 19 ls [.ref (sY 4 0)]) rfl ?_
        refine va_get (D := (dC, dI)) (ci := 7) (v := .int ((vY 4) 3)) (C := RX7) (T := TX7) (N := 9) hx hb hts (fun w h => List.mem_cons_of_mem _ (List.mem_append_right _ (List.mem_append_right _ (List.mem_append_right _ (List.mem_append_right _ (List.mem_append_left _ h)))))) hown hK hP 59 rfl rfl 4 (by decide) (hts (.fieldLink RX11 169 "SagMemory$State" "went" "I") (wl_mem 10 rfl)) (fun _ h9 => h9) rfl dX11_goes_19 ?_
        refine lv_goto (tgt := 27) hx hb dX11_goes_22 (by decide) ?_
        rw [hQ]
        exact W.iret (v := ((vY 4) 3)) hx hb hr (fun t ht hW => ⟨((vY 4) 3), rfl, trivial, ht⟩) (fun _ h => absurd h List.not_mem_nil) dX11_goes_27
      · skip
        have zz62 : ¬ p1.toInt < (0 : Int) := fun h9 => cz38 (zi_lt.mpr h9)
        have zz63 : ¬ (7 : Int) ≤ p1.toInt := fun h9 => cz39 (zi_le.mpr h9)
        have zz64 : p1.toInt = (4 : Int) := zi_eq.mp cz40
        refine W.eq (g2 := F0 m 19 ls [.ref (sY 5 0)]) rfl ?_
        refine va_get (D := (dC, dI)) (ci := 7) (v := .int ((vY 5) 3)) (C := RX7) (T := TX7) (N := 9) hx hb hts (fun w h => List.mem_cons_of_mem _ (List.mem_append_right _ (List.mem_append_right _ (List.mem_append_right _ (List.mem_append_right _ (List.mem_append_left _ h)))))) hown hK hP 70 rfl rfl 4 (by decide) (hts (.fieldLink RX11 169 "SagMemory$State" "went" "I") (wl_mem 10 rfl)) (fun _ h9 => h9) rfl dX11_goes_19 ?_
        refine lv_goto (tgt := 27) hx hb dX11_goes_22 (by decide) ?_
        rw [hQ]
        exact W.iret (v := ((vY 5) 3)) hx hb hr (fun t ht hW => ⟨((vY 5) 3), rfl, trivial, ht⟩) (fun _ h => absurd h List.not_mem_nil) dX11_goes_27
      · skip
        have zz65 : ¬ p1.toInt < (0 : Int) := fun h9 => cz41 (zi_lt.mpr h9)
        have zz66 : ¬ (7 : Int) ≤ p1.toInt := fun h9 => cz42 (zi_le.mpr h9)
        have zz67 : p1.toInt = (5 : Int) := zi_eq.mp cz43
        refine W.eq (g2 := F0 m 19 ls [.ref (sY 6 0)]) rfl ?_
        refine va_get (D := (dC, dI)) (ci := 7) (v := .int ((vY 6) 3)) (C := RX7) (T := TX7) (N := 9) hx hb hts (fun w h => List.mem_cons_of_mem _ (List.mem_append_right _ (List.mem_append_right _ (List.mem_append_right _ (List.mem_append_right _ (List.mem_append_left _ h)))))) hown hK hP 81 rfl rfl 4 (by decide) (hts (.fieldLink RX11 169 "SagMemory$State" "went" "I") (wl_mem 10 rfl)) (fun _ h9 => h9) rfl dX11_goes_19 ?_
        refine lv_goto (tgt := 27) hx hb dX11_goes_22 (by decide) ?_
        rw [hQ]
        exact W.iret (v := ((vY 6) 3)) hx hb hr (fun t ht hW => ⟨((vY 6) 3), rfl, trivial, ht⟩) (fun _ h => absurd h List.not_mem_nil) dX11_goes_27
      · skip
        have zz68 : ¬ p1.toInt < (0 : Int) := fun h9 => cz44 (zi_lt.mpr h9)
        have zz69 : ¬ (7 : Int) ≤ p1.toInt := fun h9 => cz45 (zi_le.mpr h9)
        have zz70 : p1.toInt = (6 : Int) := zi_eq.mp cz46
        refine W.eq (g2 := F0 m 19 ls [.ref (sY 7 0)]) rfl ?_
        refine va_get (D := (dC, dI)) (ci := 7) (v := .int ((vY 7) 3)) (C := RX7) (T := TX7) (N := 9) hx hb hts (fun w h => List.mem_cons_of_mem _ (List.mem_append_right _ (List.mem_append_right _ (List.mem_append_right _ (List.mem_append_right _ (List.mem_append_left _ h)))))) hown hK hP 92 rfl rfl 4 (by decide) (hts (.fieldLink RX11 169 "SagMemory$State" "went" "I") (wl_mem 10 rfl)) (fun _ h9 => h9) rfl dX11_goes_19 ?_
        refine lv_goto (tgt := 27) hx hb dX11_goes_22 (by decide) ?_
        rw [hQ]
        exact W.iret (v := ((vY 7) 3)) hx hb hr (fun t ht hW => ⟨((vY 7) 3), rfl, trivial, ht⟩) (fun _ h => absurd h List.not_mem_nil) dX11_goes_27
def wk_c_X11_comes : List Cond := .code yX11_comes cX11_comes 2 (some .int) :: ([.fieldLink RX11 19 "SagMemory" "told" "LSagMemory$Valley;", .methodLink RX11 141 yX10_hasCart, .instanceMethod yX10_hasCart, .selects RX10 yX10_hasCart yX10_hasCart, .initialized RX10, .fieldLink RX11 45 "SagMemory" "story" "LSagMemory$Story;", .methodLink RX11 165 yX8_behind, .instanceMethod yX8_behind, .selects RX8 yX8_behind yX8_behind, .initialized RX8, .fieldLink RX11 174 "SagMemory$State" "came" "I"] ++ (wsX110 ++ (wk_c_X10_hasCart ++ (wk_c_X8_behind ++ (wsX70 ++ [])))))
theorem wkg_c_X11_comes : wk_c_X11_comes.all goodWord = true := by decide +kernel
set_option maxHeartbeats 4000000 in
set_option maxRecDepth 100000 in
theorem c_X11_comes (l : Launch) (dC : Nat → ClassId) (dI : Nat → Nat → Nat) (k : Nat → ClassId) (qX : Nat → Nat) (tapeX : Nat) (actsX : Nat) (nowX : Nat) (trialX : Nat) (attemptX : Nat) (orderSearchX : Nat) (routeSearchX : Nat) (setSearchX : Nat) (probeX : Nat) (slot0X : Nat) (slot1X : Nat) (slot2X : Nat) (slot3X : Nat) (image0X : Nat) (image1X : Nat) (image2X : Nat) (aX : Nat → Nat → Int32) (qV : Nat → Nat) (vV : Nat → Int32) (bV : Nat → Int32) (cV : Nat → Int32) (wV : Nat → Int32) (aV : Nat → Nat → Int32) (eV : Nat → Nat → Int32) (qY : Nat → Nat) (sY : Nat → Nat → Nat) (planY : Nat) (vY : Nat → Nat → Int32) (nY : Nat → Nat → Int32) (aY : Nat → Nat → Nat → Int32) (p1 : Int32) (hbV : Rg 0 3 bV) (hcV : Rg 0 7 cV) (hwV : Rg 0 5 wV) (heV : RgA 0 99 eV) (hnY : ∀ t9, Rg 0 8 (nY t9)) : Met l yX11_comes wk_c_X11_comes ({ frames := 1, cells := 0, slots := 0, locals := 21 }) (va_Pc [.ref (qX 0), .int p1] (fun U => va_P (dC, dI) vwCl (List.flatten [(wSag qX k tapeX (qV 0) actsX nowX trialX (qY 0) attemptX orderSearchX routeSearchX setSearchX probeX slot0X slot1X slot2X slot3X image0X image1X image2X aX), (wValley qV k vV bV cV wV aV eV), (wStoO qY k (qV 0) planY (sY 0 0) (sY 1 0) (sY 2 0) (sY 3 0) (sY 4 0) (sY 5 0) (sY 6 0) (sY 7 0)), (wState (sY 0) k (vY 0) (nY 0) (aY 0)), (wState (sY 1) k (vY 1) (nY 1) (aY 1)), (wState (sY 2) k (vY 2) (nY 2) (aY 2)), (wState (sY 3) k (vY 3) (nY 3) (aY 3)), (wState (sY 4) k (vY 4) (nY 4) (aY 4)), (wState (sY 5) k (vY 5) (nY 5) (aY 5)), (wState (sY 6) k (vY 6) (nY 6) (aY 6)), (wState (sY 7) k (vY 7) (nY 7) (aY 7))]) U.heap ∧ va_K (dC, dI) vwCl (tK k) U)) (vp_Si (fun r : Int32 => True)) 0 0 (fun _ => False) := by
  refine Met.ofW (cc := cX11_comes) (maxL := 2) (ret := (some .int)) (by decide) rfl ?_
  intro p e s m args below meth c s₁ B hml hv
  obtain ⟨rfl, hP, hK⟩ := hv
  have hx := B.exec
  have hb := B.bytes
  have hr := B.returns
  have hts := atoms_spec (ws := wk_c_X11_comes) B.pre
  have hown : s.vm.findClass RX11 = some m.cls := findClass_of_methodNamed B.named
  have hlocks := B.notSynchronized
  have hP : va_P (dC, dI) vwCl (List.flatten [(wSag qX k tapeX (qV 0) actsX nowX trialX (qY 0) attemptX orderSearchX routeSearchX setSearchX probeX slot0X slot1X slot2X slot3X image0X image1X image2X aX), (wValley qV k vV bV cV wV aV eV), (wStoO qY k (qV 0) planY (sY 0 0) (sY 1 0) (sY 2 0) (sY 3 0) (sY 4 0) (sY 5 0) (sY 6 0) (sY 7 0)), (wState (sY 0) k (vY 0) (nY 0) (aY 0)), (wState (sY 1) k (vY 1) (nY 1) (aY 1)), (wState (sY 2) k (vY 2) (nY 2) (aY 2)), (wState (sY 3) k (vY 3) (nY 3) (aY 3)), (wState (sY 4) k (vY 4) (nY 4) (aY 4)), (wState (sY 5) k (vY 5) (nY 5) (aY 5)), (wState (sY 6) k (vY 6) (nY 6) (aY 6)), (wState (sY 7) k (vY 7) (nY 7) (aY 7))]) s.heap := hP
  have hl := lv_entry ([.ref (qX 0), .int p1]) (n := 2) (Nat.le_of_ble_eq_true rfl)
  rw [lg_entry_eq]
  generalize (lg_sl ([.ref (qX 0), .int p1]) ++ List.replicate (2 - (lg_sl ([.ref (qX 0), .int p1])).length) Slot.unset).toArray = ls at hl ⊢
  have hl : lv_has ls 2 [(0, .ref (qX 0)), (1, .int p1)] := hl
  refine w_gen (fun Q hQ => ?_)
  refine lv_aload_n hx hb dX11_comes_0 rfl (lv_at hl 0 rfl) ?_
  refine va_get (D := (dC, dI)) (ci := 11) (v := .ref (qV 0)) (C := RX11) (T := TX11) (N := 15) hx hb hts (fun w h => List.mem_cons_of_mem _ (List.mem_append_right _ (List.mem_append_left _ h))) hown hK hP 0 rfl rfl 1 (by decide) (hts (.fieldLink RX11 19 "SagMemory" "told" "LSagMemory$Valley;") (wl_mem 0 rfl)) (fun _ h9 => h9) rfl dX11_comes_1 ?_
  refine lv_iload_n hx hb dX11_comes_4 rfl (lv_at hl 1 rfl) ?_
  have hPc := hP.sub (ws' := (List.flatten [(wValley qV k vV bV cV wV aV eV)])) [5, 6, 7, 8, 9, 10, 11, 12] rfl
  refine vp_callSi (va_Run.run (va_runV (As := [.int p1]) (rest := []) ⟨hx, hb, hml, hown, hts⟩ (c_X10_hasCart l dC dI k qV vV bV cV wV aV eV p1 hbV hcV hwV heV) (cwV 1 hts (gk_V (wl_mem 1 rfl) (wl_mem 2 rfl) (wl_mem 3 rfl) (wl_mem 4 rfl) (fun w h => List.mem_cons_of_mem _ (List.mem_append_right _ (List.mem_append_right _ (List.mem_append_left _ h)))) wkg_c_X10_hasCart) rfl rfl rfl (by decide +kernel) ⟨Nat.le_of_ble_eq_true rfl, Nat.le_of_ble_eq_true rfl⟩) ⟨fun a U g mk q => by obtain ⟨q0, qP, qK⟩ := q; exact ⟨q0, qP, va_K.moved (u := U) (U := U.calling g mk a) (Vm.Alike.refl U.vm) qK⟩, va_recv hK hPc (ci := 10) (q0 := 0) rfl rfl, fun U hU hW => ⟨rfl, by rw [hU]; exact hPc, va_K.moved hW.alike hK⟩⟩ rfl rfl hl.1 rfl (lv_room (Nat.le_of_ble_eq_true rfl)) dX11_comes_5 ⟨Nat.le_of_ble_eq_true rfl, Nat.le_of_ble_eq_true rfl⟩)) (fun rz2 gz1 => ?_)
  clear hPc
  rcases gz1 with ⟨er, cz3⟩ | ⟨er, cz4, cz5⟩ | ⟨er, cz6, cz7⟩
  · obtain rfl := er.symm
    have bz8 := fb_rng p1
    have zz9 : p1.toInt < (0 : Int) := zi_lt.mp cz3
    refine lv_if_eq (tgt := 25) hx hb dX11_comes_8 (by decide) (fun cz10 => ?_) (fun cz10 => ?_)
    · skip
      refine lv_bipush (v := (-2)) hx hb dX11_comes_25 (by decide) ?_
      rw [hQ]
      exact W.iret (v := (-2 : Int32)) hx hb hr (fun t ht hW => ⟨(-2 : Int32), rfl, trivial, ht⟩) (fun _ h => absurd h List.not_mem_nil) dX11_comes_27
    · skip
      exact absurd cz10 (by decide)
  · obtain rfl := er.symm
    have bz11 := fb_rng p1
    have zz12 : ¬ p1.toInt < (0 : Int) := fun h9 => cz4 (zi_lt.mpr h9)
    have bz13 := hcV 0
    have zz14 : (cV 0).toInt ≤ p1.toInt := zi_le.mp cz5
    refine lv_if_eq (tgt := 25) hx hb dX11_comes_8 (by decide) (fun cz15 => ?_) (fun cz15 => ?_)
    · skip
      refine lv_bipush (v := (-2)) hx hb dX11_comes_25 (by decide) ?_
      rw [hQ]
      exact W.iret (v := (-2 : Int32)) hx hb hr (fun t ht hW => ⟨(-2 : Int32), rfl, trivial, ht⟩) (fun _ h => absurd h List.not_mem_nil) dX11_comes_27
    · skip
      exact absurd cz15 (by decide)
  · obtain rfl := er.symm
    have bz16 := fb_rng p1
    have zz17 : ¬ p1.toInt < (0 : Int) := fun h9 => cz6 (zi_lt.mpr h9)
    have bz18 := hcV 0
    have zz19 : ¬ (cV 0).toInt ≤ p1.toInt := fun h9 => cz7 (zi_le.mpr h9)
    refine lv_if_eq (tgt := 25) hx hb dX11_comes_8 (by decide) (fun cz20 => ?_) (fun cz20 => ?_)
    · skip
      exact absurd cz20 (by decide)
    · skip
      refine lv_aload_n hx hb dX11_comes_11 rfl (lv_at hl 0 rfl) ?_
      refine va_get (D := (dC, dI)) (ci := 11) (v := .ref (qY 0)) (C := RX11) (T := TX11) (N := 15) hx hb hts (fun w h => List.mem_cons_of_mem _ (List.mem_append_right _ (List.mem_append_left _ h))) hown hK hP 0 rfl rfl 5 (by decide) (hts (.fieldLink RX11 45 "SagMemory" "story" "LSagMemory$Story;") (wl_mem 5 rfl)) (fun _ h9 => h9) rfl dX11_comes_12 ?_
      refine lv_iload_n hx hb dX11_comes_15 rfl (lv_at hl 1 rfl) ?_
      have hPc : va_P (dC, dI) vwCl (List.flatten [(wStoO qY k (qV 0) planY (sY 0 0) (sY 1 0) (sY 2 0) (sY 3 0) (sY 4 0) (sY 5 0) (sY 6 0) (sY 7 0)), (wState (sY 0) k (vY 0) (nY 0) (aY 0)), (wState (sY 1) k (vY 1) (nY 1) (aY 1)), (wState (sY 2) k (vY 2) (nY 2) (aY 2)), (wState (sY 3) k (vY 3) (nY 3) (aY 3)), (wState (sY 4) k (vY 4) (nY 4) (aY 4)), (wState (sY 5) k (vY 5) (nY 5) (aY 5)), (wState (sY 6) k (vY 6) (nY 6) (aY 6)), (wState (sY 7) k (vY 7) (nY 7) (aY 7))]) s.heap := wc_subP0 hP [2, 3, 4, 5, 6, 7, 8, 9, 10] rfl
      refine va_csr (va_Run.run (va_runV (As := [.int p1]) (rest := []) ⟨hx, hb, hml, hown, hts⟩ (c_X8_behind l dC dI k qY sY (qV 0) planY vY nY aY p1 hnY) (cwV 1 hts (gk_V (wl_mem 6 rfl) (wl_mem 7 rfl) (wl_mem 8 rfl) (wl_mem 9 rfl) (fun w h => List.mem_cons_of_mem _ (List.mem_append_right _ (List.mem_append_right _ (List.mem_append_right _ (List.mem_append_left _ h))))) wkg_c_X8_behind) rfl rfl rfl (by decide +kernel) ⟨Nat.le_of_ble_eq_true rfl, Nat.le_of_ble_eq_true rfl⟩) ⟨fun a U g mk q => by obtain ⟨q0, qP, qK⟩ := q; exact ⟨q0, qP, va_K.moved (u := U) (U := U.calling g mk a) (Vm.Alike.refl U.vm) qK⟩, va_recv hK hPc (ci := 8) (q0 := 0) rfl rfl, fun U hU hW => ⟨rfl, by rw [hU]; exact hPc, va_K.moved hW.alike hK⟩⟩ rfl rfl hl.1 rfl (lv_room (Nat.le_of_ble_eq_true rfl)) dX11_comes_16 ⟨Nat.le_of_ble_eq_true rfl, Nat.le_of_ble_eq_true rfl⟩)) (fun rz22 gz21 => ?_)
      clear hPc
      rcases gz21 with ⟨rfl, cz23⟩ | ⟨rfl, cz24, cz25⟩ | ⟨rfl, cz26, cz27, cz28⟩ | ⟨rfl, cz29, cz30, cz31⟩ | ⟨rfl, cz32, cz33, cz34⟩ | ⟨rfl, cz35, cz36, cz37⟩ | ⟨rfl, cz38, cz39, cz40⟩ | ⟨rfl, cz41, cz42, cz43⟩ | ⟨rfl, cz44, cz45, cz46⟩
      · skip
        have zz47 : p1.toInt < (0 : Int) := zi_lt.mp cz23
        omega
      · skip
        have zz48 : ¬ p1.toInt < (0 : Int) := fun h9 => cz24 (zi_lt.mpr h9)
        have zz49 : (7 : Int) ≤ p1.toInt := zi_le.mp cz25
        omega
      · skip
        have zz50 : ¬ p1.toInt < (0 : Int) := fun h9 => cz26 (zi_lt.mpr h9)
        have zz51 : ¬ (7 : Int) ≤ p1.toInt := fun h9 => cz27 (zi_le.mpr h9)
        have zz52 : p1.toInt = (0 : Int) := zi_eq.mp cz28
        refine W.eq (g2 := F0 m 19 ls [.ref (sY 1 0)]) rfl ?_
        refine va_get (D := (dC, dI)) (ci := 7) (v := .int ((vY 1) 2)) (C := RX7) (T := TX7) (N := 9) hx hb hts (fun w h => List.mem_cons_of_mem _ (List.mem_append_right _ (List.mem_append_right _ (List.mem_append_right _ (List.mem_append_right _ (List.mem_append_left _ h)))))) hown hK hP 26 rfl rfl 3 (by decide) (hts (.fieldLink RX11 174 "SagMemory$State" "came" "I") (wl_mem 10 rfl)) (fun _ h9 => h9) rfl dX11_comes_19 ?_
        refine lv_goto (tgt := 27) hx hb dX11_comes_22 (by decide) ?_
        rw [hQ]
        exact W.iret (v := ((vY 1) 2)) hx hb hr (fun t ht hW => ⟨((vY 1) 2), rfl, trivial, ht⟩) (fun _ h => absurd h List.not_mem_nil) dX11_comes_27
      · skip
        have zz53 : ¬ p1.toInt < (0 : Int) := fun h9 => cz29 (zi_lt.mpr h9)
        have zz54 : ¬ (7 : Int) ≤ p1.toInt := fun h9 => cz30 (zi_le.mpr h9)
        have zz55 : p1.toInt = (1 : Int) := zi_eq.mp cz31
        refine W.eq (g2 := F0 m 19 ls [.ref (sY 2 0)]) rfl ?_
        refine va_get (D := (dC, dI)) (ci := 7) (v := .int ((vY 2) 2)) (C := RX7) (T := TX7) (N := 9) hx hb hts (fun w h => List.mem_cons_of_mem _ (List.mem_append_right _ (List.mem_append_right _ (List.mem_append_right _ (List.mem_append_right _ (List.mem_append_left _ h)))))) hown hK hP 37 rfl rfl 3 (by decide) (hts (.fieldLink RX11 174 "SagMemory$State" "came" "I") (wl_mem 10 rfl)) (fun _ h9 => h9) rfl dX11_comes_19 ?_
        refine lv_goto (tgt := 27) hx hb dX11_comes_22 (by decide) ?_
        rw [hQ]
        exact W.iret (v := ((vY 2) 2)) hx hb hr (fun t ht hW => ⟨((vY 2) 2), rfl, trivial, ht⟩) (fun _ h => absurd h List.not_mem_nil) dX11_comes_27
      · skip
        have zz56 : ¬ p1.toInt < (0 : Int) := fun h9 => cz32 (zi_lt.mpr h9)
        have zz57 : ¬ (7 : Int) ≤ p1.toInt := fun h9 => cz33 (zi_le.mpr h9)
        have zz58 : p1.toInt = (2 : Int) := zi_eq.mp cz34
        refine W.eq (g2 := F0 m 19 ls [.ref (sY 3 0)]) rfl ?_
        refine va_get (D := (dC, dI)) (ci := 7) (v := .int ((vY 3) 2)) (C := RX7) (T := TX7) (N := 9) hx hb hts (fun w h => List.mem_cons_of_mem _ (List.mem_append_right _ (List.mem_append_right _ (List.mem_append_right _ (List.mem_append_right _ (List.mem_append_left _ h)))))) hown hK hP 48 rfl rfl 3 (by decide) (hts (.fieldLink RX11 174 "SagMemory$State" "came" "I") (wl_mem 10 rfl)) (fun _ h9 => h9) rfl dX11_comes_19 ?_
        refine lv_goto (tgt := 27) hx hb dX11_comes_22 (by decide) ?_
        rw [hQ]
        exact W.iret (v := ((vY 3) 2)) hx hb hr (fun t ht hW => ⟨((vY 3) 2), rfl, trivial, ht⟩) (fun _ h => absurd h List.not_mem_nil) dX11_comes_27
      · skip
        have zz59 : ¬ p1.toInt < (0 : Int) := fun h9 => cz35 (zi_lt.mpr h9)
        have zz60 : ¬ (7 : Int) ≤ p1.toInt := fun h9 => cz36 (zi_le.mpr h9)
        have zz61 : p1.toInt = (3 : Int) := zi_eq.mp cz37
        refine W.eq (g2 := F0 m 19 ls [.ref (sY 4 0)]) rfl ?_
        refine va_get (D := (dC, dI)) (ci := 7) (v := .int ((vY 4) 2)) (C := RX7) (T := TX7) (N := 9) hx hb hts (fun w h => List.mem_cons_of_mem _ (List.mem_append_right _ (List.mem_append_right _ (List.mem_append_right _ (List.mem_append_right _ (List.mem_append_left _ h)))))) hown hK hP 59 rfl rfl 3 (by decide) (hts (.fieldLink RX11 174 "SagMemory$State" "came" "I") (wl_mem 10 rfl)) (fun _ h9 => h9) rfl dX11_comes_19 ?_
        refine lv_goto (tgt := 27) hx hb dX11_comes_22 (by decide) ?_
        rw [hQ]
        exact W.iret (v := ((vY 4) 2)) hx hb hr (fun t ht hW => ⟨((vY 4) 2), rfl, trivial, ht⟩) (fun _ h => absurd h List.not_mem_nil) dX11_comes_27
      · skip
        have zz62 : ¬ p1.toInt < (0 : Int) := fun h9 => cz38 (zi_lt.mpr h9)
        have zz63 : ¬ (7 : Int) ≤ p1.toInt := fun h9 => cz39 (zi_le.mpr h9)
        have zz64 : p1.toInt = (4 : Int) := zi_eq.mp cz40
        refine W.eq (g2 := F0 m 19 ls [.ref (sY 5 0)]) rfl ?_
        refine va_get (D := (dC, dI)) (ci := 7) (v := .int ((vY 5) 2)) (C := RX7) (T := TX7) (N := 9) hx hb hts (fun w h => List.mem_cons_of_mem _ (List.mem_append_right _ (List.mem_append_right _ (List.mem_append_right _ (List.mem_append_right _ (List.mem_append_left _ h)))))) hown hK hP 70 rfl rfl 3 (by decide) (hts (.fieldLink RX11 174 "SagMemory$State" "came" "I") (wl_mem 10 rfl)) (fun _ h9 => h9) rfl dX11_comes_19 ?_
        refine lv_goto (tgt := 27) hx hb dX11_comes_22 (by decide) ?_
        rw [hQ]
        exact W.iret (v := ((vY 5) 2)) hx hb hr (fun t ht hW => ⟨((vY 5) 2), rfl, trivial, ht⟩) (fun _ h => absurd h List.not_mem_nil) dX11_comes_27
      · skip
        have zz65 : ¬ p1.toInt < (0 : Int) := fun h9 => cz41 (zi_lt.mpr h9)
        have zz66 : ¬ (7 : Int) ≤ p1.toInt := fun h9 => cz42 (zi_le.mpr h9)
        have zz67 : p1.toInt = (5 : Int) := zi_eq.mp cz43
        refine W.eq (g2 := F0 m 19 ls [.ref (sY 6 0)]) rfl ?_
        refine va_get (D := (dC, dI)) (ci := 7) (v := .int ((vY 6) 2)) (C := RX7) (T := TX7) (N := 9) hx hb hts (fun w h => List.mem_cons_of_mem _ (List.mem_append_right _ (List.mem_append_right _ (List.mem_append_right _ (List.mem_append_right _ (List.mem_append_left _ h)))))) hown hK hP 81 rfl rfl 3 (by decide) (hts (.fieldLink RX11 174 "SagMemory$State" "came" "I") (wl_mem 10 rfl)) (fun _ h9 => h9) rfl dX11_comes_19 ?_
        refine lv_goto (tgt := 27) hx hb dX11_comes_22 (by decide) ?_
        rw [hQ]
        exact W.iret (v := ((vY 6) 2)) hx hb hr (fun t ht hW => ⟨((vY 6) 2), rfl, trivial, ht⟩) (fun _ h => absurd h List.not_mem_nil) dX11_comes_27
      · skip
        have zz68 : ¬ p1.toInt < (0 : Int) := fun h9 => cz44 (zi_lt.mpr h9)
        have zz69 : ¬ (7 : Int) ≤ p1.toInt := fun h9 => cz45 (zi_le.mpr h9)
        have zz70 : p1.toInt = (6 : Int) := zi_eq.mp cz46
        refine W.eq (g2 := F0 m 19 ls [.ref (sY 7 0)]) rfl ?_
        refine va_get (D := (dC, dI)) (ci := 7) (v := .int ((vY 7) 2)) (C := RX7) (T := TX7) (N := 9) hx hb hts (fun w h => List.mem_cons_of_mem _ (List.mem_append_right _ (List.mem_append_right _ (List.mem_append_right _ (List.mem_append_right _ (List.mem_append_left _ h)))))) hown hK hP 92 rfl rfl 3 (by decide) (hts (.fieldLink RX11 174 "SagMemory$State" "came" "I") (wl_mem 10 rfl)) (fun _ h9 => h9) rfl dX11_comes_19 ?_
        refine lv_goto (tgt := 27) hx hb dX11_comes_22 (by decide) ?_
        rw [hQ]
        exact W.iret (v := ((vY 7) 2)) hx hb hr (fun t ht hW => ⟨((vY 7) 2), rfl, trivial, ht⟩) (fun _ h => absurd h List.not_mem_nil) dX11_comes_27
def wk_c_X11_over : List Cond := .code yX11_over cX11_over 4 (some .int) :: ([.fieldLink RX11 19 "SagMemory" "told" "LSagMemory$Valley;", .methodLink RX11 131 yX10_hasBridge, .instanceMethod yX10_hasBridge, .selects RX10 yX10_hasBridge yX10_hasBridge, .initialized RX10, .fieldLink RX11 177 "SagMemory$Valley" "carts" "I", .fieldLink RX11 45 "SagMemory" "story" "LSagMemory$Story;", .methodLink RX11 165 yX8_behind, .instanceMethod yX8_behind, .selects RX8 yX8_behind yX8_behind, .initialized RX8, .fieldLink RX11 169 "SagMemory$State" "went" "I"] ++ (wsX110 ++ (wk_c_X10_hasBridge ++ (wsX100 ++ (wk_c_X8_behind ++ (wsX70 ++ []))))))
theorem wkg_c_X11_over : wk_c_X11_over.all goodWord = true := by decide +kernel
set_option maxHeartbeats 4000000 in
set_option maxRecDepth 100000 in
theorem c_X11_over (l : Launch) (dC : Nat → ClassId) (dI : Nat → Nat → Nat) (k : Nat → ClassId) (qX : Nat → Nat) (tapeX : Nat) (actsX : Nat) (nowX : Nat) (trialX : Nat) (attemptX : Nat) (orderSearchX : Nat) (routeSearchX : Nat) (setSearchX : Nat) (probeX : Nat) (slot0X : Nat) (slot1X : Nat) (slot2X : Nat) (slot3X : Nat) (image0X : Nat) (image1X : Nat) (image2X : Nat) (aX : Nat → Nat → Int32) (qV : Nat → Nat) (vV : Nat → Int32) (bV : Nat → Int32) (cV : Nat → Int32) (wV : Nat → Int32) (aV : Nat → Nat → Int32) (eV : Nat → Nat → Int32) (qY : Nat → Nat) (sY : Nat → Nat → Nat) (planY : Nat) (vY : Nat → Nat → Int32) (nY : Nat → Nat → Int32) (aY : Nat → Nat → Nat → Int32) (p1 : Int32) (hbV : Rg 0 3 bV) (hcV : Rg 0 7 cV) (hwV : Rg 0 5 wV) (heV : RgA 0 99 eV) (hnY : ∀ t9, Rg 0 8 (nY t9)) : Met l yX11_over wk_c_X11_over ({ frames := 1, cells := 0, slots := 0, locals := 21 }) (va_Pc [.ref (qX 0), .int p1] (fun U => va_P (dC, dI) vwCl (List.flatten [(wSag qX k tapeX (qV 0) actsX nowX trialX (qY 0) attemptX orderSearchX routeSearchX setSearchX probeX slot0X slot1X slot2X slot3X image0X image1X image2X aX), (wValley qV k vV bV cV wV aV eV), (wStoO qY k (qV 0) planY (sY 0 0) (sY 1 0) (sY 2 0) (sY 3 0) (sY 4 0) (sY 5 0) (sY 6 0) (sY 7 0)), (wState (sY 0) k (vY 0) (nY 0) (aY 0)), (wState (sY 1) k (vY 1) (nY 1) (aY 1)), (wState (sY 2) k (vY 2) (nY 2) (aY 2)), (wState (sY 3) k (vY 3) (nY 3) (aY 3)), (wState (sY 4) k (vY 4) (nY 4) (aY 4)), (wState (sY 5) k (vY 5) (nY 5) (aY 5)), (wState (sY 6) k (vY 6) (nY 6) (aY 6)), (wState (sY 7) k (vY 7) (nY 7) (aY 7))]) U.heap ∧ va_K (dC, dI) vwCl (tK k) U)) (vp_Si (fun r : Int32 => True)) 0 0 (fun _ => False) := by
  refine Met.ofW (cc := cX11_over) (maxL := 4) (ret := (some .int)) (by decide) rfl ?_
  intro p e s m args below meth c s₁ B hml hv
  obtain ⟨rfl, hP, hK⟩ := hv
  have hx := B.exec
  have hb := B.bytes
  have hr := B.returns
  have hts := atoms_spec (ws := wk_c_X11_over) B.pre
  have hown : s.vm.findClass RX11 = some m.cls := findClass_of_methodNamed B.named
  have hlocks := B.notSynchronized
  have hP : va_P (dC, dI) vwCl (List.flatten [(wSag qX k tapeX (qV 0) actsX nowX trialX (qY 0) attemptX orderSearchX routeSearchX setSearchX probeX slot0X slot1X slot2X slot3X image0X image1X image2X aX), (wValley qV k vV bV cV wV aV eV), (wStoO qY k (qV 0) planY (sY 0 0) (sY 1 0) (sY 2 0) (sY 3 0) (sY 4 0) (sY 5 0) (sY 6 0) (sY 7 0)), (wState (sY 0) k (vY 0) (nY 0) (aY 0)), (wState (sY 1) k (vY 1) (nY 1) (aY 1)), (wState (sY 2) k (vY 2) (nY 2) (aY 2)), (wState (sY 3) k (vY 3) (nY 3) (aY 3)), (wState (sY 4) k (vY 4) (nY 4) (aY 4)), (wState (sY 5) k (vY 5) (nY 5) (aY 5)), (wState (sY 6) k (vY 6) (nY 6) (aY 6)), (wState (sY 7) k (vY 7) (nY 7) (aY 7))]) s.heap := hP
  have hl := lv_entry ([.ref (qX 0), .int p1]) (n := 4) (Nat.le_of_ble_eq_true rfl)
  rw [lg_entry_eq]
  generalize (lg_sl ([.ref (qX 0), .int p1]) ++ List.replicate (4 - (lg_sl ([.ref (qX 0), .int p1])).length) Slot.unset).toArray = ls at hl ⊢
  have hl : lv_has ls 4 [(0, .ref (qX 0)), (1, .int p1)] := hl
  refine w_gen (fun Q hQ => ?_)
  refine lv_aload_n hx hb dX11_over_0 rfl (lv_at hl 0 rfl) ?_
  refine va_get (D := (dC, dI)) (ci := 11) (v := .ref (qV 0)) (C := RX11) (T := TX11) (N := 15) hx hb hts (fun w h => List.mem_cons_of_mem _ (List.mem_append_right _ (List.mem_append_left _ h))) hown hK hP 0 rfl rfl 1 (by decide) (hts (.fieldLink RX11 19 "SagMemory" "told" "LSagMemory$Valley;") (wl_mem 0 rfl)) (fun _ h9 => h9) rfl dX11_over_1 ?_
  refine lv_iload_n hx hb dX11_over_4 rfl (lv_at hl 1 rfl) ?_
  have hPc := hP.sub (ws' := (List.flatten [(wValley qV k vV bV cV wV aV eV)])) [5, 6, 7, 8, 9, 10, 11, 12] rfl
  refine vp_callSi (va_Run.run (va_runV (As := [.int p1]) (rest := []) ⟨hx, hb, hml, hown, hts⟩ (c_X10_hasBridge l dC dI k qV vV bV cV wV aV eV p1 hbV hcV hwV heV) (cwV 1 hts (gk_V (wl_mem 1 rfl) (wl_mem 2 rfl) (wl_mem 3 rfl) (wl_mem 4 rfl) (fun w h => List.mem_cons_of_mem _ (List.mem_append_right _ (List.mem_append_right _ (List.mem_append_left _ h)))) wkg_c_X10_hasBridge) rfl rfl rfl (by decide +kernel) ⟨Nat.le_of_ble_eq_true rfl, Nat.le_of_ble_eq_true rfl⟩) ⟨fun a U g mk q => by obtain ⟨q0, qP, qK⟩ := q; exact ⟨q0, qP, va_K.moved (u := U) (U := U.calling g mk a) (Vm.Alike.refl U.vm) qK⟩, va_recv hK hPc (ci := 10) (q0 := 0) rfl rfl, fun U hU hW => ⟨rfl, by rw [hU]; exact hPc, va_K.moved hW.alike hK⟩⟩ rfl rfl hl.1 rfl (lv_room (Nat.le_of_ble_eq_true rfl)) dX11_over_5 ⟨Nat.le_of_ble_eq_true rfl, Nat.le_of_ble_eq_true rfl⟩)) (fun rz2 gz1 => ?_)
  clear hPc
  rcases gz1 with ⟨er, cz3⟩ | ⟨er, cz4, cz5⟩ | ⟨er, cz6, cz7⟩
  · obtain rfl := er.symm
    have bz8 := fb_rng p1
    have zz9 : p1.toInt < (0 : Int) := zi_lt.mp cz3
    refine lv_if_ne (tgt := 14) hx hb dX11_over_8 (by decide) (fun cz10 => ?_) (fun cz10 => ?_)
    · skip
      exact absurd cz10 (by decide)
    · skip
      refine lv_bipush (v := (-2)) hx hb dX11_over_11 (by decide) ?_
      rw [hQ]
      exact W.iret (v := (-2 : Int32)) hx hb hr (fun t ht hW => ⟨(-2 : Int32), rfl, trivial, ht⟩) (fun _ h => absurd h List.not_mem_nil) dX11_over_13
  · obtain rfl := er.symm
    have bz11 := fb_rng p1
    have zz12 : ¬ p1.toInt < (0 : Int) := fun h9 => cz4 (zi_lt.mpr h9)
    have bz13 := hbV 0
    have zz14 : (bV 0).toInt ≤ p1.toInt := zi_le.mp cz5
    refine lv_if_ne (tgt := 14) hx hb dX11_over_8 (by decide) (fun cz15 => ?_) (fun cz15 => ?_)
    · skip
      exact absurd cz15 (by decide)
    · skip
      refine lv_bipush (v := (-2)) hx hb dX11_over_11 (by decide) ?_
      rw [hQ]
      exact W.iret (v := (-2 : Int32)) hx hb hr (fun t ht hW => ⟨(-2 : Int32), rfl, trivial, ht⟩) (fun _ h => absurd h List.not_mem_nil) dX11_over_13
  · obtain rfl := er.symm
    have bz16 := fb_rng p1
    have zz17 : ¬ p1.toInt < (0 : Int) := fun h9 => cz6 (zi_lt.mpr h9)
    have bz18 := hbV 0
    have zz19 : ¬ (bV 0).toInt ≤ p1.toInt := fun h9 => cz7 (zi_le.mpr h9)
    refine lv_if_ne (tgt := 14) hx hb dX11_over_8 (by decide) (fun cz20 => ?_) (fun cz20 => ?_)
    · skip
      refine lv_iconst (v := 0) hx hb dX11_over_14 (by decide) ?_
      refine lv_istore_n (lv' := [(2, .int 0), (0, .ref (qX 0)), (1, .int p1)]) hx hb dX11_over_15 rfl hl (by decide) rfl (fun ls hl => ?_)
      refine lv_iconst (v := 0) hx hb dX11_over_16 (by decide) ?_
      refine lv_istore_n (lv' := [(3, .int 0), (2, .int 0), (0, .ref (qX 0)), (1, .int p1)]) hx hb dX11_over_17 rfl hl (by decide) rfl (fun ls hl => ?_)
      have lp18_kz185 : ∀ (n9_18 : Nat) (ls : Array Slot) (xz183 : Int32) (xz184 : Int32), (2147483647 - xz184.toInt).toNat < n9_18 → 0 ≤ xz184.toInt → lv_has ls 4 [(0, .ref (qX 0)), (1, .int p1), (2, .int xz183), (3, .int xz184)] → W p l e (headSpec wk_c_X11_over ({ frames := 1, cells := 0, slots := 0, locals := 21 })).room s m ([.ref (qX 0), .int p1] : List Value).toArray below meth c s.heap [] 0 0 Q (F0 m 18 ls []) := by
        intro n9_18
        induction n9_18 with
        | zero => intro ls xz183 xz184 hm; exact absurd hm (Nat.not_lt_zero _)
        | succ n9_18 ih18 =>
          intro ls xz183 xz184 hm18 jz186 hl
          refine lv_iload_n hx hb dX11_over_18 rfl (lv_at hl 3 rfl) ?_
          refine lv_aload_n hx hb dX11_over_19 rfl (lv_at hl 0 rfl) ?_
          refine va_get (D := (dC, dI)) (ci := 11) (v := .ref (qV 0)) (C := RX11) (T := TX11) (N := 15) hx hb hts (fun w h => List.mem_cons_of_mem _ (List.mem_append_right _ (List.mem_append_left _ h))) hown hK hP 0 rfl rfl 1 (by decide) (hts (.fieldLink RX11 19 "SagMemory" "told" "LSagMemory$Valley;") (wl_mem 0 rfl)) (fun _ h9 => h9) rfl dX11_over_20 ?_
          refine va_get (D := (dC, dI)) (ci := 10) (v := .int (cV 0)) (C := RX10) (T := TX10) (N := 16) hx hb hts (fun w h => List.mem_cons_of_mem _ (List.mem_append_right _ (List.mem_append_right _ (List.mem_append_right _ (List.mem_append_left _ h))))) hown hK hP 5 rfl rfl 12 (by decide) (hts (.fieldLink RX11 177 "SagMemory$Valley" "carts" "I") (wl_mem 5 rfl)) (fun _ h9 => h9) rfl dX11_over_23 ?_
          have bz187 := hcV 0
          refine lv_icmp_ge (tgt := 56) hx hb dX11_over_26 (by decide) (fun cz188 => ?_) (fun cz188 => ?_)
          · skip
            have bz189 := fb_rng xz184
            have zz190 : (cV 0).toInt ≤ xz184.toInt := zi_le.mp cz188
            refine lv_iload_n hx hb dX11_over_56 rfl (lv_at hl 2 rfl) ?_
            rw [hQ]
            exact W.iret (v := xz183) hx hb hr (fun t ht hW => ⟨xz183, rfl, trivial, ht⟩) (fun _ h => absurd h List.not_mem_nil) dX11_over_57
          · skip
            have bz191 := fb_rng xz184
            have zz192 : ¬ (cV 0).toInt ≤ xz184.toInt := fun h9 => cz188 (zi_le.mpr h9)
            refine lv_aload_n hx hb dX11_over_29 rfl (lv_at hl 0 rfl) ?_
            refine va_get (D := (dC, dI)) (ci := 11) (v := .ref (qY 0)) (C := RX11) (T := TX11) (N := 15) hx hb hts (fun w h => List.mem_cons_of_mem _ (List.mem_append_right _ (List.mem_append_left _ h))) hown hK hP 0 rfl rfl 5 (by decide) (hts (.fieldLink RX11 45 "SagMemory" "story" "LSagMemory$Story;") (wl_mem 6 rfl)) (fun _ h9 => h9) rfl dX11_over_30 ?_
            refine lv_iload_n hx hb dX11_over_33 rfl (lv_at hl 3 rfl) ?_
            have hPc : va_P (dC, dI) vwCl (List.flatten [(wStoO qY k (qV 0) planY (sY 0 0) (sY 1 0) (sY 2 0) (sY 3 0) (sY 4 0) (sY 5 0) (sY 6 0) (sY 7 0)), (wState (sY 0) k (vY 0) (nY 0) (aY 0)), (wState (sY 1) k (vY 1) (nY 1) (aY 1)), (wState (sY 2) k (vY 2) (nY 2) (aY 2)), (wState (sY 3) k (vY 3) (nY 3) (aY 3)), (wState (sY 4) k (vY 4) (nY 4) (aY 4)), (wState (sY 5) k (vY 5) (nY 5) (aY 5)), (wState (sY 6) k (vY 6) (nY 6) (aY 6)), (wState (sY 7) k (vY 7) (nY 7) (aY 7))]) s.heap := wc_subP0 hP [2, 3, 4, 5, 6, 7, 8, 9, 10] rfl
            refine va_csr (va_Run.run (va_runV (As := [.int xz184]) (rest := []) ⟨hx, hb, hml, hown, hts⟩ (c_X8_behind l dC dI k qY sY (qV 0) planY vY nY aY xz184 hnY) (cwV 1 hts (gk_V (wl_mem 7 rfl) (wl_mem 8 rfl) (wl_mem 9 rfl) (wl_mem 10 rfl) (fun w h => List.mem_cons_of_mem _ (List.mem_append_right _ (List.mem_append_right _ (List.mem_append_right _ (List.mem_append_right _ (List.mem_append_left _ h)))))) wkg_c_X8_behind) rfl rfl rfl (by decide +kernel) ⟨Nat.le_of_ble_eq_true rfl, Nat.le_of_ble_eq_true rfl⟩) ⟨fun a U g mk q => by obtain ⟨q0, qP, qK⟩ := q; exact ⟨q0, qP, va_K.moved (u := U) (U := U.calling g mk a) (Vm.Alike.refl U.vm) qK⟩, va_recv hK hPc (ci := 8) (q0 := 0) rfl rfl, fun U hU hW => ⟨rfl, by rw [hU]; exact hPc, va_K.moved hW.alike hK⟩⟩ rfl rfl hl.1 rfl (lv_room (Nat.le_of_ble_eq_true rfl)) dX11_over_34 ⟨Nat.le_of_ble_eq_true rfl, Nat.le_of_ble_eq_true rfl⟩)) (fun rz194 gz193 => ?_)
            clear hPc
            rcases gz193 with ⟨rfl, cz195⟩ | ⟨rfl, cz196, cz197⟩ | ⟨rfl, cz198, cz199, cz200⟩ | ⟨rfl, cz201, cz202, cz203⟩ | ⟨rfl, cz204, cz205, cz206⟩ | ⟨rfl, cz207, cz208, cz209⟩ | ⟨rfl, cz210, cz211, cz212⟩ | ⟨rfl, cz213, cz214, cz215⟩ | ⟨rfl, cz216, cz217, cz218⟩
            · skip
              have zz219 : xz184.toInt < (0 : Int) := zi_lt.mp cz195
              omega
            · skip
              have zz220 : ¬ xz184.toInt < (0 : Int) := fun h9 => cz196 (zi_lt.mpr h9)
              have zz221 : (7 : Int) ≤ xz184.toInt := zi_le.mp cz197
              omega
            · skip
              have zz222 : ¬ xz184.toInt < (0 : Int) := fun h9 => cz198 (zi_lt.mpr h9)
              have zz223 : ¬ (7 : Int) ≤ xz184.toInt := fun h9 => cz199 (zi_le.mpr h9)
              have zz224 : xz184.toInt = (0 : Int) := zi_eq.mp cz200
              refine W.eq (g2 := F0 m 37 ls [.ref (sY 1 0)]) rfl ?_
              refine va_get (D := (dC, dI)) (ci := 7) (v := .int ((vY 1) 3)) (C := RX7) (T := TX7) (N := 9) hx hb hts (fun w h => List.mem_cons_of_mem _ (List.mem_append_right _ (List.mem_append_right _ (List.mem_append_right _ (List.mem_append_right _ (List.mem_append_right _ (List.mem_append_left _ h))))))) hown hK hP 26 rfl rfl 4 (by decide) (hts (.fieldLink RX11 169 "SagMemory$State" "went" "I") (wl_mem 11 rfl)) (fun _ h9 => h9) rfl dX11_over_37 ?_
              refine lv_iload_n hx hb dX11_over_40 rfl (lv_at hl 1 rfl) ?_
              have ct50_kz231 : ∀ (ls : Array Slot) (xz230 : Int32), lv_has ls 4 [(0, .ref (qX 0)), (1, .int p1), (2, .int xz230), (3, .int xz184)] → W p l e (headSpec wk_c_X11_over ({ frames := 1, cells := 0, slots := 0, locals := 21 })).room s m ([.ref (qX 0), .int p1] : List Value).toArray below meth c s.heap [] 0 0 Q (F0 m 50 ls []) := by
                intro ls xz230  hl
                obtain ⟨xz232, exz232⟩ : ∃ y : Int32, y = xz184 + Int32.ofInt (1) := ⟨_, rfl⟩
                have fxz232 : xz232.toInt = xz184.toInt + (1) := by rw [exz232]; exact fb_addI (y := Int32.ofInt (1)) (by show -2147483648 ≤ xz184.toInt + (1); omega) (by show xz184.toInt + (1) < 2147483648; omega)
                refine lv_iinc (v := xz232) (lv' := [(3, .int xz232), (0, .ref (qX 0)), (1, .int p1), (2, .int xz230)]) hx hb dX11_over_50 hl (k := 3) rfl exz232.symm (by decide) rfl (fun ls hl => ?_)
                refine lv_goto (tgt := 18) hx hb dX11_over_53 (by decide) ?_
                exact ih18 ls xz230 xz232 (by show (2147483647 - xz232.toInt).toNat < n9_18; omega) (by show 0 ≤ xz232.toInt; omega) (lv_sub hl [1, 2, 3, 0] rfl)
              refine lv_icmp_ne (tgt := 50) hx hb dX11_over_41 (by decide) (fun cz233 => ?_) (fun cz233 => ?_)
              · skip
                have zz234 : ¬ ((vY 1) 3).toInt = p1.toInt := fun h9 => cz233 (zi_eq.mpr h9)
                exact ct50_kz231 ls xz183   (lv_sub hl [0, 1, 2, 3] rfl)
              · skip
                have zz235 : ((vY 1) 3).toInt = p1.toInt := zi_eq.mp cz233
                refine lv_iload_n hx hb dX11_over_44 rfl (lv_at hl 2 rfl) ?_
                refine lv_iconst (v := 1) hx hb dX11_over_45 (by decide) ?_
                refine lv_iload_n hx hb dX11_over_46 rfl (lv_at hl 3 rfl) ?_
                refine lv_ishl hx hb dX11_over_47 ?_
                refine lv_topi (fun xz236 exz236 => ?_)
                refine lv_ior hx hb dX11_over_48 ?_
                refine lv_topi (fun xz237 exz237 => ?_)
                refine lv_istore_n (lv' := [(2, .int xz237), (0, .ref (qX 0)), (1, .int p1), (3, .int xz184)]) hx hb dX11_over_49 rfl hl (by decide) rfl (fun ls hl => ?_)
                exact ct50_kz231 ls xz237   (lv_sub hl [1, 2, 0, 3] rfl)
            · skip
              have zz238 : ¬ xz184.toInt < (0 : Int) := fun h9 => cz201 (zi_lt.mpr h9)
              have zz239 : ¬ (7 : Int) ≤ xz184.toInt := fun h9 => cz202 (zi_le.mpr h9)
              have zz240 : xz184.toInt = (1 : Int) := zi_eq.mp cz203
              refine W.eq (g2 := F0 m 37 ls [.ref (sY 2 0)]) rfl ?_
              refine va_get (D := (dC, dI)) (ci := 7) (v := .int ((vY 2) 3)) (C := RX7) (T := TX7) (N := 9) hx hb hts (fun w h => List.mem_cons_of_mem _ (List.mem_append_right _ (List.mem_append_right _ (List.mem_append_right _ (List.mem_append_right _ (List.mem_append_right _ (List.mem_append_left _ h))))))) hown hK hP 37 rfl rfl 4 (by decide) (hts (.fieldLink RX11 169 "SagMemory$State" "went" "I") (wl_mem 11 rfl)) (fun _ h9 => h9) rfl dX11_over_37 ?_
              refine lv_iload_n hx hb dX11_over_40 rfl (lv_at hl 1 rfl) ?_
              have ct50_kz247 : ∀ (ls : Array Slot) (xz246 : Int32), lv_has ls 4 [(0, .ref (qX 0)), (1, .int p1), (2, .int xz246), (3, .int xz184)] → W p l e (headSpec wk_c_X11_over ({ frames := 1, cells := 0, slots := 0, locals := 21 })).room s m ([.ref (qX 0), .int p1] : List Value).toArray below meth c s.heap [] 0 0 Q (F0 m 50 ls []) := by
                intro ls xz246  hl
                obtain ⟨xz248, exz248⟩ : ∃ y : Int32, y = xz184 + Int32.ofInt (1) := ⟨_, rfl⟩
                have fxz248 : xz248.toInt = xz184.toInt + (1) := by rw [exz248]; exact fb_addI (y := Int32.ofInt (1)) (by show -2147483648 ≤ xz184.toInt + (1); omega) (by show xz184.toInt + (1) < 2147483648; omega)
                refine lv_iinc (v := xz248) (lv' := [(3, .int xz248), (0, .ref (qX 0)), (1, .int p1), (2, .int xz246)]) hx hb dX11_over_50 hl (k := 3) rfl exz248.symm (by decide) rfl (fun ls hl => ?_)
                refine lv_goto (tgt := 18) hx hb dX11_over_53 (by decide) ?_
                exact ih18 ls xz246 xz248 (by show (2147483647 - xz248.toInt).toNat < n9_18; omega) (by show 0 ≤ xz248.toInt; omega) (lv_sub hl [1, 2, 3, 0] rfl)
              refine lv_icmp_ne (tgt := 50) hx hb dX11_over_41 (by decide) (fun cz249 => ?_) (fun cz249 => ?_)
              · skip
                have zz250 : ¬ ((vY 2) 3).toInt = p1.toInt := fun h9 => cz249 (zi_eq.mpr h9)
                exact ct50_kz247 ls xz183   (lv_sub hl [0, 1, 2, 3] rfl)
              · skip
                have zz251 : ((vY 2) 3).toInt = p1.toInt := zi_eq.mp cz249
                refine lv_iload_n hx hb dX11_over_44 rfl (lv_at hl 2 rfl) ?_
                refine lv_iconst (v := 1) hx hb dX11_over_45 (by decide) ?_
                refine lv_iload_n hx hb dX11_over_46 rfl (lv_at hl 3 rfl) ?_
                refine lv_ishl hx hb dX11_over_47 ?_
                refine lv_topi (fun xz252 exz252 => ?_)
                refine lv_ior hx hb dX11_over_48 ?_
                refine lv_topi (fun xz253 exz253 => ?_)
                refine lv_istore_n (lv' := [(2, .int xz253), (0, .ref (qX 0)), (1, .int p1), (3, .int xz184)]) hx hb dX11_over_49 rfl hl (by decide) rfl (fun ls hl => ?_)
                exact ct50_kz247 ls xz253   (lv_sub hl [1, 2, 0, 3] rfl)
            · skip
              have zz254 : ¬ xz184.toInt < (0 : Int) := fun h9 => cz204 (zi_lt.mpr h9)
              have zz255 : ¬ (7 : Int) ≤ xz184.toInt := fun h9 => cz205 (zi_le.mpr h9)
              have zz256 : xz184.toInt = (2 : Int) := zi_eq.mp cz206
              refine W.eq (g2 := F0 m 37 ls [.ref (sY 3 0)]) rfl ?_
              refine va_get (D := (dC, dI)) (ci := 7) (v := .int ((vY 3) 3)) (C := RX7) (T := TX7) (N := 9) hx hb hts (fun w h => List.mem_cons_of_mem _ (List.mem_append_right _ (List.mem_append_right _ (List.mem_append_right _ (List.mem_append_right _ (List.mem_append_right _ (List.mem_append_left _ h))))))) hown hK hP 48 rfl rfl 4 (by decide) (hts (.fieldLink RX11 169 "SagMemory$State" "went" "I") (wl_mem 11 rfl)) (fun _ h9 => h9) rfl dX11_over_37 ?_
              refine lv_iload_n hx hb dX11_over_40 rfl (lv_at hl 1 rfl) ?_
              have ct50_kz263 : ∀ (ls : Array Slot) (xz262 : Int32), lv_has ls 4 [(0, .ref (qX 0)), (1, .int p1), (2, .int xz262), (3, .int xz184)] → W p l e (headSpec wk_c_X11_over ({ frames := 1, cells := 0, slots := 0, locals := 21 })).room s m ([.ref (qX 0), .int p1] : List Value).toArray below meth c s.heap [] 0 0 Q (F0 m 50 ls []) := by
                intro ls xz262  hl
                obtain ⟨xz264, exz264⟩ : ∃ y : Int32, y = xz184 + Int32.ofInt (1) := ⟨_, rfl⟩
                have fxz264 : xz264.toInt = xz184.toInt + (1) := by rw [exz264]; exact fb_addI (y := Int32.ofInt (1)) (by show -2147483648 ≤ xz184.toInt + (1); omega) (by show xz184.toInt + (1) < 2147483648; omega)
                refine lv_iinc (v := xz264) (lv' := [(3, .int xz264), (0, .ref (qX 0)), (1, .int p1), (2, .int xz262)]) hx hb dX11_over_50 hl (k := 3) rfl exz264.symm (by decide) rfl (fun ls hl => ?_)
                refine lv_goto (tgt := 18) hx hb dX11_over_53 (by decide) ?_
                exact ih18 ls xz262 xz264 (by show (2147483647 - xz264.toInt).toNat < n9_18; omega) (by show 0 ≤ xz264.toInt; omega) (lv_sub hl [1, 2, 3, 0] rfl)
              refine lv_icmp_ne (tgt := 50) hx hb dX11_over_41 (by decide) (fun cz265 => ?_) (fun cz265 => ?_)
              · skip
                have zz266 : ¬ ((vY 3) 3).toInt = p1.toInt := fun h9 => cz265 (zi_eq.mpr h9)
                exact ct50_kz263 ls xz183   (lv_sub hl [0, 1, 2, 3] rfl)
              · skip
                have zz267 : ((vY 3) 3).toInt = p1.toInt := zi_eq.mp cz265
                refine lv_iload_n hx hb dX11_over_44 rfl (lv_at hl 2 rfl) ?_
                refine lv_iconst (v := 1) hx hb dX11_over_45 (by decide) ?_
                refine lv_iload_n hx hb dX11_over_46 rfl (lv_at hl 3 rfl) ?_
                refine lv_ishl hx hb dX11_over_47 ?_
                refine lv_topi (fun xz268 exz268 => ?_)
                refine lv_ior hx hb dX11_over_48 ?_
                refine lv_topi (fun xz269 exz269 => ?_)
                refine lv_istore_n (lv' := [(2, .int xz269), (0, .ref (qX 0)), (1, .int p1), (3, .int xz184)]) hx hb dX11_over_49 rfl hl (by decide) rfl (fun ls hl => ?_)
                exact ct50_kz263 ls xz269   (lv_sub hl [1, 2, 0, 3] rfl)
            · skip
              have zz270 : ¬ xz184.toInt < (0 : Int) := fun h9 => cz207 (zi_lt.mpr h9)
              have zz271 : ¬ (7 : Int) ≤ xz184.toInt := fun h9 => cz208 (zi_le.mpr h9)
              have zz272 : xz184.toInt = (3 : Int) := zi_eq.mp cz209
              refine W.eq (g2 := F0 m 37 ls [.ref (sY 4 0)]) rfl ?_
              refine va_get (D := (dC, dI)) (ci := 7) (v := .int ((vY 4) 3)) (C := RX7) (T := TX7) (N := 9) hx hb hts (fun w h => List.mem_cons_of_mem _ (List.mem_append_right _ (List.mem_append_right _ (List.mem_append_right _ (List.mem_append_right _ (List.mem_append_right _ (List.mem_append_left _ h))))))) hown hK hP 59 rfl rfl 4 (by decide) (hts (.fieldLink RX11 169 "SagMemory$State" "went" "I") (wl_mem 11 rfl)) (fun _ h9 => h9) rfl dX11_over_37 ?_
              refine lv_iload_n hx hb dX11_over_40 rfl (lv_at hl 1 rfl) ?_
              have ct50_kz279 : ∀ (ls : Array Slot) (xz278 : Int32), lv_has ls 4 [(0, .ref (qX 0)), (1, .int p1), (2, .int xz278), (3, .int xz184)] → W p l e (headSpec wk_c_X11_over ({ frames := 1, cells := 0, slots := 0, locals := 21 })).room s m ([.ref (qX 0), .int p1] : List Value).toArray below meth c s.heap [] 0 0 Q (F0 m 50 ls []) := by
                intro ls xz278  hl
                obtain ⟨xz280, exz280⟩ : ∃ y : Int32, y = xz184 + Int32.ofInt (1) := ⟨_, rfl⟩
                have fxz280 : xz280.toInt = xz184.toInt + (1) := by rw [exz280]; exact fb_addI (y := Int32.ofInt (1)) (by show -2147483648 ≤ xz184.toInt + (1); omega) (by show xz184.toInt + (1) < 2147483648; omega)
                refine lv_iinc (v := xz280) (lv' := [(3, .int xz280), (0, .ref (qX 0)), (1, .int p1), (2, .int xz278)]) hx hb dX11_over_50 hl (k := 3) rfl exz280.symm (by decide) rfl (fun ls hl => ?_)
                refine lv_goto (tgt := 18) hx hb dX11_over_53 (by decide) ?_
                exact ih18 ls xz278 xz280 (by show (2147483647 - xz280.toInt).toNat < n9_18; omega) (by show 0 ≤ xz280.toInt; omega) (lv_sub hl [1, 2, 3, 0] rfl)
              refine lv_icmp_ne (tgt := 50) hx hb dX11_over_41 (by decide) (fun cz281 => ?_) (fun cz281 => ?_)
              · skip
                have zz282 : ¬ ((vY 4) 3).toInt = p1.toInt := fun h9 => cz281 (zi_eq.mpr h9)
                exact ct50_kz279 ls xz183   (lv_sub hl [0, 1, 2, 3] rfl)
              · skip
                have zz283 : ((vY 4) 3).toInt = p1.toInt := zi_eq.mp cz281
                refine lv_iload_n hx hb dX11_over_44 rfl (lv_at hl 2 rfl) ?_
                refine lv_iconst (v := 1) hx hb dX11_over_45 (by decide) ?_
                refine lv_iload_n hx hb dX11_over_46 rfl (lv_at hl 3 rfl) ?_
                refine lv_ishl hx hb dX11_over_47 ?_
                refine lv_topi (fun xz284 exz284 => ?_)
                refine lv_ior hx hb dX11_over_48 ?_
                refine lv_topi (fun xz285 exz285 => ?_)
                refine lv_istore_n (lv' := [(2, .int xz285), (0, .ref (qX 0)), (1, .int p1), (3, .int xz184)]) hx hb dX11_over_49 rfl hl (by decide) rfl (fun ls hl => ?_)
                exact ct50_kz279 ls xz285   (lv_sub hl [1, 2, 0, 3] rfl)
            · skip
              have zz286 : ¬ xz184.toInt < (0 : Int) := fun h9 => cz210 (zi_lt.mpr h9)
              have zz287 : ¬ (7 : Int) ≤ xz184.toInt := fun h9 => cz211 (zi_le.mpr h9)
              have zz288 : xz184.toInt = (4 : Int) := zi_eq.mp cz212
              refine W.eq (g2 := F0 m 37 ls [.ref (sY 5 0)]) rfl ?_
              refine va_get (D := (dC, dI)) (ci := 7) (v := .int ((vY 5) 3)) (C := RX7) (T := TX7) (N := 9) hx hb hts (fun w h => List.mem_cons_of_mem _ (List.mem_append_right _ (List.mem_append_right _ (List.mem_append_right _ (List.mem_append_right _ (List.mem_append_right _ (List.mem_append_left _ h))))))) hown hK hP 70 rfl rfl 4 (by decide) (hts (.fieldLink RX11 169 "SagMemory$State" "went" "I") (wl_mem 11 rfl)) (fun _ h9 => h9) rfl dX11_over_37 ?_
              refine lv_iload_n hx hb dX11_over_40 rfl (lv_at hl 1 rfl) ?_
              have ct50_kz295 : ∀ (ls : Array Slot) (xz294 : Int32), lv_has ls 4 [(0, .ref (qX 0)), (1, .int p1), (2, .int xz294), (3, .int xz184)] → W p l e (headSpec wk_c_X11_over ({ frames := 1, cells := 0, slots := 0, locals := 21 })).room s m ([.ref (qX 0), .int p1] : List Value).toArray below meth c s.heap [] 0 0 Q (F0 m 50 ls []) := by
                intro ls xz294  hl
                obtain ⟨xz296, exz296⟩ : ∃ y : Int32, y = xz184 + Int32.ofInt (1) := ⟨_, rfl⟩
                have fxz296 : xz296.toInt = xz184.toInt + (1) := by rw [exz296]; exact fb_addI (y := Int32.ofInt (1)) (by show -2147483648 ≤ xz184.toInt + (1); omega) (by show xz184.toInt + (1) < 2147483648; omega)
                refine lv_iinc (v := xz296) (lv' := [(3, .int xz296), (0, .ref (qX 0)), (1, .int p1), (2, .int xz294)]) hx hb dX11_over_50 hl (k := 3) rfl exz296.symm (by decide) rfl (fun ls hl => ?_)
                refine lv_goto (tgt := 18) hx hb dX11_over_53 (by decide) ?_
                exact ih18 ls xz294 xz296 (by show (2147483647 - xz296.toInt).toNat < n9_18; omega) (by show 0 ≤ xz296.toInt; omega) (lv_sub hl [1, 2, 3, 0] rfl)
              refine lv_icmp_ne (tgt := 50) hx hb dX11_over_41 (by decide) (fun cz297 => ?_) (fun cz297 => ?_)
              · skip
                have zz298 : ¬ ((vY 5) 3).toInt = p1.toInt := fun h9 => cz297 (zi_eq.mpr h9)
                exact ct50_kz295 ls xz183   (lv_sub hl [0, 1, 2, 3] rfl)
              · skip
                have zz299 : ((vY 5) 3).toInt = p1.toInt := zi_eq.mp cz297
                refine lv_iload_n hx hb dX11_over_44 rfl (lv_at hl 2 rfl) ?_
                refine lv_iconst (v := 1) hx hb dX11_over_45 (by decide) ?_
                refine lv_iload_n hx hb dX11_over_46 rfl (lv_at hl 3 rfl) ?_
                refine lv_ishl hx hb dX11_over_47 ?_
                refine lv_topi (fun xz300 exz300 => ?_)
                refine lv_ior hx hb dX11_over_48 ?_
                refine lv_topi (fun xz301 exz301 => ?_)
                refine lv_istore_n (lv' := [(2, .int xz301), (0, .ref (qX 0)), (1, .int p1), (3, .int xz184)]) hx hb dX11_over_49 rfl hl (by decide) rfl (fun ls hl => ?_)
                exact ct50_kz295 ls xz301   (lv_sub hl [1, 2, 0, 3] rfl)
            · skip
              have zz302 : ¬ xz184.toInt < (0 : Int) := fun h9 => cz213 (zi_lt.mpr h9)
              have zz303 : ¬ (7 : Int) ≤ xz184.toInt := fun h9 => cz214 (zi_le.mpr h9)
              have zz304 : xz184.toInt = (5 : Int) := zi_eq.mp cz215
              refine W.eq (g2 := F0 m 37 ls [.ref (sY 6 0)]) rfl ?_
              refine va_get (D := (dC, dI)) (ci := 7) (v := .int ((vY 6) 3)) (C := RX7) (T := TX7) (N := 9) hx hb hts (fun w h => List.mem_cons_of_mem _ (List.mem_append_right _ (List.mem_append_right _ (List.mem_append_right _ (List.mem_append_right _ (List.mem_append_right _ (List.mem_append_left _ h))))))) hown hK hP 81 rfl rfl 4 (by decide) (hts (.fieldLink RX11 169 "SagMemory$State" "went" "I") (wl_mem 11 rfl)) (fun _ h9 => h9) rfl dX11_over_37 ?_
              refine lv_iload_n hx hb dX11_over_40 rfl (lv_at hl 1 rfl) ?_
              have ct50_kz311 : ∀ (ls : Array Slot) (xz310 : Int32), lv_has ls 4 [(0, .ref (qX 0)), (1, .int p1), (2, .int xz310), (3, .int xz184)] → W p l e (headSpec wk_c_X11_over ({ frames := 1, cells := 0, slots := 0, locals := 21 })).room s m ([.ref (qX 0), .int p1] : List Value).toArray below meth c s.heap [] 0 0 Q (F0 m 50 ls []) := by
                intro ls xz310  hl
                obtain ⟨xz312, exz312⟩ : ∃ y : Int32, y = xz184 + Int32.ofInt (1) := ⟨_, rfl⟩
                have fxz312 : xz312.toInt = xz184.toInt + (1) := by rw [exz312]; exact fb_addI (y := Int32.ofInt (1)) (by show -2147483648 ≤ xz184.toInt + (1); omega) (by show xz184.toInt + (1) < 2147483648; omega)
                refine lv_iinc (v := xz312) (lv' := [(3, .int xz312), (0, .ref (qX 0)), (1, .int p1), (2, .int xz310)]) hx hb dX11_over_50 hl (k := 3) rfl exz312.symm (by decide) rfl (fun ls hl => ?_)
                refine lv_goto (tgt := 18) hx hb dX11_over_53 (by decide) ?_
                exact ih18 ls xz310 xz312 (by show (2147483647 - xz312.toInt).toNat < n9_18; omega) (by show 0 ≤ xz312.toInt; omega) (lv_sub hl [1, 2, 3, 0] rfl)
              refine lv_icmp_ne (tgt := 50) hx hb dX11_over_41 (by decide) (fun cz313 => ?_) (fun cz313 => ?_)
              · skip
                have zz314 : ¬ ((vY 6) 3).toInt = p1.toInt := fun h9 => cz313 (zi_eq.mpr h9)
                exact ct50_kz311 ls xz183   (lv_sub hl [0, 1, 2, 3] rfl)
              · skip
                have zz315 : ((vY 6) 3).toInt = p1.toInt := zi_eq.mp cz313
                refine lv_iload_n hx hb dX11_over_44 rfl (lv_at hl 2 rfl) ?_
                refine lv_iconst (v := 1) hx hb dX11_over_45 (by decide) ?_
                refine lv_iload_n hx hb dX11_over_46 rfl (lv_at hl 3 rfl) ?_
                refine lv_ishl hx hb dX11_over_47 ?_
                refine lv_topi (fun xz316 exz316 => ?_)
                refine lv_ior hx hb dX11_over_48 ?_
                refine lv_topi (fun xz317 exz317 => ?_)
                refine lv_istore_n (lv' := [(2, .int xz317), (0, .ref (qX 0)), (1, .int p1), (3, .int xz184)]) hx hb dX11_over_49 rfl hl (by decide) rfl (fun ls hl => ?_)
                exact ct50_kz311 ls xz317   (lv_sub hl [1, 2, 0, 3] rfl)
            · skip
              have zz318 : ¬ xz184.toInt < (0 : Int) := fun h9 => cz216 (zi_lt.mpr h9)
              have zz319 : ¬ (7 : Int) ≤ xz184.toInt := fun h9 => cz217 (zi_le.mpr h9)
              have zz320 : xz184.toInt = (6 : Int) := zi_eq.mp cz218
              refine W.eq (g2 := F0 m 37 ls [.ref (sY 7 0)]) rfl ?_
              refine va_get (D := (dC, dI)) (ci := 7) (v := .int ((vY 7) 3)) (C := RX7) (T := TX7) (N := 9) hx hb hts (fun w h => List.mem_cons_of_mem _ (List.mem_append_right _ (List.mem_append_right _ (List.mem_append_right _ (List.mem_append_right _ (List.mem_append_right _ (List.mem_append_left _ h))))))) hown hK hP 92 rfl rfl 4 (by decide) (hts (.fieldLink RX11 169 "SagMemory$State" "went" "I") (wl_mem 11 rfl)) (fun _ h9 => h9) rfl dX11_over_37 ?_
              refine lv_iload_n hx hb dX11_over_40 rfl (lv_at hl 1 rfl) ?_
              have ct50_kz327 : ∀ (ls : Array Slot) (xz326 : Int32), lv_has ls 4 [(0, .ref (qX 0)), (1, .int p1), (2, .int xz326), (3, .int xz184)] → W p l e (headSpec wk_c_X11_over ({ frames := 1, cells := 0, slots := 0, locals := 21 })).room s m ([.ref (qX 0), .int p1] : List Value).toArray below meth c s.heap [] 0 0 Q (F0 m 50 ls []) := by
                intro ls xz326  hl
                obtain ⟨xz328, exz328⟩ : ∃ y : Int32, y = xz184 + Int32.ofInt (1) := ⟨_, rfl⟩
                have fxz328 : xz328.toInt = xz184.toInt + (1) := by rw [exz328]; exact fb_addI (y := Int32.ofInt (1)) (by show -2147483648 ≤ xz184.toInt + (1); omega) (by show xz184.toInt + (1) < 2147483648; omega)
                refine lv_iinc (v := xz328) (lv' := [(3, .int xz328), (0, .ref (qX 0)), (1, .int p1), (2, .int xz326)]) hx hb dX11_over_50 hl (k := 3) rfl exz328.symm (by decide) rfl (fun ls hl => ?_)
                refine lv_goto (tgt := 18) hx hb dX11_over_53 (by decide) ?_
                exact ih18 ls xz326 xz328 (by show (2147483647 - xz328.toInt).toNat < n9_18; omega) (by show 0 ≤ xz328.toInt; omega) (lv_sub hl [1, 2, 3, 0] rfl)
              refine lv_icmp_ne (tgt := 50) hx hb dX11_over_41 (by decide) (fun cz329 => ?_) (fun cz329 => ?_)
              · skip
                have zz330 : ¬ ((vY 7) 3).toInt = p1.toInt := fun h9 => cz329 (zi_eq.mpr h9)
                exact ct50_kz327 ls xz183   (lv_sub hl [0, 1, 2, 3] rfl)
              · skip
                have zz331 : ((vY 7) 3).toInt = p1.toInt := zi_eq.mp cz329
                refine lv_iload_n hx hb dX11_over_44 rfl (lv_at hl 2 rfl) ?_
                refine lv_iconst (v := 1) hx hb dX11_over_45 (by decide) ?_
                refine lv_iload_n hx hb dX11_over_46 rfl (lv_at hl 3 rfl) ?_
                refine lv_ishl hx hb dX11_over_47 ?_
                refine lv_topi (fun xz332 exz332 => ?_)
                refine lv_ior hx hb dX11_over_48 ?_
                refine lv_topi (fun xz333 exz333 => ?_)
                refine lv_istore_n (lv' := [(2, .int xz333), (0, .ref (qX 0)), (1, .int p1), (3, .int xz184)]) hx hb dX11_over_49 rfl hl (by decide) rfl (fun ls hl => ?_)
                exact ct50_kz327 ls xz333   (lv_sub hl [1, 2, 0, 3] rfl)
      exact lp18_kz185 _ ls (0 : Int32) (0 : Int32) (Nat.lt_succ_self _) (by show 0 ≤ (0 : Int); omega) (lv_sub hl [2, 3, 1, 0] rfl)
    · skip
      exact absurd cz20 (by decide)
def wk_c_X11_waits : List Cond := .code yX11_waits cX11_waits 1 (some .int) :: ([.methodLink RX11 180 yX11_noValley, .instanceMethod yX11_noValley, .selects RX11 yX11_noValley yX11_noValley, .initialized RX11, .fieldLink RX11 19 "SagMemory" "told" "LSagMemory$Valley;", .fieldLink RX11 177 "SagMemory$Valley" "carts" "I", .fieldLink RX11 45 "SagMemory" "story" "LSagMemory$Story;", .methodLink RX11 183 yX8_atEnd, .instanceMethod yX8_atEnd, .selects RX8 yX8_atEnd yX8_atEnd, .initialized RX8, .fieldLink RX11 187 "SagMemory$State" "crossed" "I"] ++ (wk_c_X11_noValley ++ (wsX110 ++ (wsX100 ++ (wk_c_X8_atEnd ++ (wsX70 ++ []))))))
theorem wkg_c_X11_waits : wk_c_X11_waits.all goodWord = true := by decide +kernel
set_option maxHeartbeats 4000000 in
set_option maxRecDepth 100000 in
theorem c_X11_waits (l : Launch) (dC : Nat → ClassId) (dI : Nat → Nat → Nat) (k : Nat → ClassId) (qX : Nat → Nat) (tapeX : Nat) (actsX : Nat) (nowX : Nat) (trialX : Nat) (attemptX : Nat) (orderSearchX : Nat) (routeSearchX : Nat) (setSearchX : Nat) (probeX : Nat) (slot0X : Nat) (slot1X : Nat) (slot2X : Nat) (slot3X : Nat) (image0X : Nat) (image1X : Nat) (image2X : Nat) (aX : Nat → Nat → Int32) (qV : Nat → Nat) (vV : Nat → Int32) (bV : Nat → Int32) (cV : Nat → Int32) (wV : Nat → Int32) (aV : Nat → Nat → Int32) (eV : Nat → Nat → Int32) (qY : Nat → Nat) (sY : Nat → Nat → Nat) (planY : Nat) (vY : Nat → Nat → Int32) (nY : Nat → Nat → Int32) (aY : Nat → Nat → Nat → Int32) (hbV : Rg 0 3 bV) (hcV : Rg 0 7 cV) (hwV : Rg 0 5 wV) (heV : RgA 0 99 eV) (hnY : ∀ t9, Rg 0 8 (nY t9)) : Met l yX11_waits wk_c_X11_waits ({ frames := 2, cells := 0, slots := 0, locals := 41 }) (va_Pc [.ref (qX 0)] (fun U => va_P (dC, dI) vwCl (List.flatten [(wSag qX k tapeX (qV 0) actsX nowX trialX (qY 0) attemptX orderSearchX routeSearchX setSearchX probeX slot0X slot1X slot2X slot3X image0X image1X image2X aX), (wValley qV k vV bV cV wV aV eV), (wStoO qY k (qV 0) planY (sY 0 0) (sY 1 0) (sY 2 0) (sY 3 0) (sY 4 0) (sY 5 0) (sY 6 0) (sY 7 0)), (wState (sY 0) k (vY 0) (nY 0) (aY 0)), (wState (sY 1) k (vY 1) (nY 1) (aY 1)), (wState (sY 2) k (vY 2) (nY 2) (aY 2)), (wState (sY 3) k (vY 3) (nY 3) (aY 3)), (wState (sY 4) k (vY 4) (nY 4) (aY 4)), (wState (sY 5) k (vY 5) (nY 5) (aY 5)), (wState (sY 6) k (vY 6) (nY 6) (aY 6)), (wState (sY 7) k (vY 7) (nY 7) (aY 7))]) U.heap ∧ va_K (dC, dI) vwCl (tK k) U)) (vp_Si (fun r : Int32 => True)) 0 0 (fun _ => False) := by
  refine Met.ofW (cc := cX11_waits) (maxL := 1) (ret := (some .int)) (by decide) rfl ?_
  intro p e s m args below meth c s₁ B hml hv
  obtain ⟨rfl, hP, hK⟩ := hv
  have hx := B.exec
  have hb := B.bytes
  have hr := B.returns
  have hts := atoms_spec (ws := wk_c_X11_waits) B.pre
  have hown : s.vm.findClass RX11 = some m.cls := findClass_of_methodNamed B.named
  have hlocks := B.notSynchronized
  have hP : va_P (dC, dI) vwCl (List.flatten [(wSag qX k tapeX (qV 0) actsX nowX trialX (qY 0) attemptX orderSearchX routeSearchX setSearchX probeX slot0X slot1X slot2X slot3X image0X image1X image2X aX), (wValley qV k vV bV cV wV aV eV), (wStoO qY k (qV 0) planY (sY 0 0) (sY 1 0) (sY 2 0) (sY 3 0) (sY 4 0) (sY 5 0) (sY 6 0) (sY 7 0)), (wState (sY 0) k (vY 0) (nY 0) (aY 0)), (wState (sY 1) k (vY 1) (nY 1) (aY 1)), (wState (sY 2) k (vY 2) (nY 2) (aY 2)), (wState (sY 3) k (vY 3) (nY 3) (aY 3)), (wState (sY 4) k (vY 4) (nY 4) (aY 4)), (wState (sY 5) k (vY 5) (nY 5) (aY 5)), (wState (sY 6) k (vY 6) (nY 6) (aY 6)), (wState (sY 7) k (vY 7) (nY 7) (aY 7))]) s.heap := hP
  have hl := lv_entry ([.ref (qX 0)]) (n := 1) (Nat.le_of_ble_eq_true rfl)
  rw [lg_entry_eq]
  generalize (lg_sl ([.ref (qX 0)]) ++ List.replicate (1 - (lg_sl ([.ref (qX 0)])).length) Slot.unset).toArray = ls at hl ⊢
  have hl : lv_has ls 1 [(0, .ref (qX 0))] := hl
  refine w_gen (fun Q hQ => ?_)
  refine lv_aload_n hx hb dX11_waits_0 rfl (lv_at hl 0 rfl) ?_
  have hPc := hP.sub (ws' := (List.flatten [(wSag qX k tapeX (qV 0) actsX nowX trialX (qY 0) attemptX orderSearchX routeSearchX setSearchX probeX slot0X slot1X slot2X slot3X image0X image1X image2X aX), (wValley qV k vV bV cV wV aV eV)])) [0, 1, 2, 3, 4, 5, 6, 7, 8, 9, 10, 11, 12] rfl
  refine vp_callSi (va_Run.run (va_runV (As := []) (rest := []) ⟨hx, hb, hml, hown, hts⟩ (c_X11_noValley l dC dI k qX tapeX actsX nowX trialX (qY 0) attemptX orderSearchX routeSearchX setSearchX probeX slot0X slot1X slot2X slot3X image0X image1X image2X aX qV vV bV cV wV aV eV hbV hcV hwV heV) (cwV 0 hts (gk_V (wl_mem 0 rfl) (wl_mem 1 rfl) (wl_mem 2 rfl) (wl_mem 3 rfl) (fun w h => List.mem_cons_of_mem _ (List.mem_append_right _ (List.mem_append_left _ h))) wkg_c_X11_noValley) rfl rfl rfl (by decide +kernel) ⟨Nat.le_of_ble_eq_true rfl, Nat.le_of_ble_eq_true rfl⟩) ⟨fun a U g mk q => by obtain ⟨q0, qP, qK⟩ := q; exact ⟨q0, qP, va_K.moved (u := U) (U := U.calling g mk a) (Vm.Alike.refl U.vm) qK⟩, va_recv hK hPc (ci := 11) (q0 := 0) rfl rfl, fun U hU hW => ⟨rfl, by rw [hU]; exact hPc, va_K.moved hW.alike hK⟩⟩ rfl rfl hl.1 rfl (lv_room (Nat.le_of_ble_eq_true rfl)) dX11_waits_1 ⟨Nat.le_of_ble_eq_true rfl, Nat.le_of_ble_eq_true rfl⟩)) (fun rz2 gz1 => ?_)
  clear hPc
  have pz3 := gz1
  have pz3 : rz2.toInt = 0 ∨ rz2.toInt = 1 := pz3
  refine lv_if_eq (tgt := 10) hx hb dX11_waits_4 (by decide) (fun cz4 => ?_) (fun cz4 => ?_)
  · skip
    have zz5 : rz2.toInt = (0 : Int) := zi_eq.mp cz4
    refine lv_iconst (v := 1) hx hb dX11_waits_10 (by decide) ?_
    refine lv_aload_n hx hb dX11_waits_11 rfl (lv_at hl 0 rfl) ?_
    refine va_get (D := (dC, dI)) (ci := 11) (v := .ref (qV 0)) (C := RX11) (T := TX11) (N := 15) hx hb hts (fun w h => List.mem_cons_of_mem _ (List.mem_append_right _ (List.mem_append_right _ (List.mem_append_left _ h)))) hown hK hP 0 rfl rfl 1 (by decide) (hts (.fieldLink RX11 19 "SagMemory" "told" "LSagMemory$Valley;") (wl_mem 4 rfl)) (fun _ h9 => h9) rfl dX11_waits_12 ?_
    refine va_get (D := (dC, dI)) (ci := 10) (v := .int (cV 0)) (C := RX10) (T := TX10) (N := 16) hx hb hts (fun w h => List.mem_cons_of_mem _ (List.mem_append_right _ (List.mem_append_right _ (List.mem_append_right _ (List.mem_append_left _ h))))) hown hK hP 5 rfl rfl 12 (by decide) (hts (.fieldLink RX11 177 "SagMemory$Valley" "carts" "I") (wl_mem 5 rfl)) (fun _ h9 => h9) rfl dX11_waits_15 ?_
    have bz6 := hcV 0
    refine lv_ishl hx hb dX11_waits_18 ?_
    refine lv_topi (fun xz7 exz7 => ?_)
    refine lv_iconst (v := 1) hx hb dX11_waits_19 (by decide) ?_
    refine lv_isub hx hb dX11_waits_20 ?_
    refine lv_topi (fun xz8 exz8 => ?_)
    refine lv_aload_n hx hb dX11_waits_21 rfl (lv_at hl 0 rfl) ?_
    refine va_get (D := (dC, dI)) (ci := 11) (v := .ref (qY 0)) (C := RX11) (T := TX11) (N := 15) hx hb hts (fun w h => List.mem_cons_of_mem _ (List.mem_append_right _ (List.mem_append_right _ (List.mem_append_left _ h)))) hown hK hP 0 rfl rfl 5 (by decide) (hts (.fieldLink RX11 45 "SagMemory" "story" "LSagMemory$Story;") (wl_mem 6 rfl)) (fun _ h9 => h9) rfl dX11_waits_22 ?_
    have hPc : va_P (dC, dI) vwCl (List.flatten [(wStoO qY k (qV 0) planY (sY 0 0) (sY 1 0) (sY 2 0) (sY 3 0) (sY 4 0) (sY 5 0) (sY 6 0) (sY 7 0)), (wState (sY 0) k (vY 0) (nY 0) (aY 0)), (wState (sY 1) k (vY 1) (nY 1) (aY 1)), (wState (sY 2) k (vY 2) (nY 2) (aY 2)), (wState (sY 3) k (vY 3) (nY 3) (aY 3)), (wState (sY 4) k (vY 4) (nY 4) (aY 4)), (wState (sY 5) k (vY 5) (nY 5) (aY 5)), (wState (sY 6) k (vY 6) (nY 6) (aY 6)), (wState (sY 7) k (vY 7) (nY 7) (aY 7)), (wValley qV k vV bV cV wV aV eV)]) s.heap := wc_subP0 hP [2, 3, 4, 5, 6, 7, 8, 9, 10, 1] rfl
    refine va_csr (va_Run.run (va_runV (As := []) (rest := [.int xz8]) ⟨hx, hb, hml, hown, hts⟩ (c_X8_atEnd l dC dI k qY sY planY vY nY aY qV vV bV cV wV aV eV hnY hbV hcV hwV heV) (cwV 0 hts (gk_V (wl_mem 7 rfl) (wl_mem 8 rfl) (wl_mem 9 rfl) (wl_mem 10 rfl) (fun w h => List.mem_cons_of_mem _ (List.mem_append_right _ (List.mem_append_right _ (List.mem_append_right _ (List.mem_append_right _ (List.mem_append_left _ h)))))) wkg_c_X8_atEnd) rfl rfl rfl (by decide +kernel) ⟨Nat.le_of_ble_eq_true rfl, Nat.le_of_ble_eq_true rfl⟩) ⟨fun a U g mk q => by obtain ⟨q0, qP, qK⟩ := q; exact ⟨q0, qP, va_K.moved (u := U) (U := U.calling g mk a) (Vm.Alike.refl U.vm) qK⟩, va_recv hK hPc (ci := 8) (q0 := 0) rfl rfl, fun U hU hW => ⟨rfl, by rw [hU]; exact hPc, va_K.moved hW.alike hK⟩⟩ rfl rfl hl.1 rfl (lv_room (Nat.le_of_ble_eq_true rfl)) dX11_waits_25 ⟨Nat.le_of_ble_eq_true rfl, Nat.le_of_ble_eq_true rfl⟩)) (fun rz10 gz9 => ?_)
    clear hPc
    rcases gz9 with rfl | rfl | rfl | rfl | rfl | rfl | rfl | rfl
    · skip
      refine W.eq (g2 := F0 m 28 ls [.ref (sY 0 0), .int xz8]) rfl ?_
      refine va_get (D := (dC, dI)) (ci := 7) (v := .int ((vY 0) 1)) (C := RX7) (T := TX7) (N := 9) hx hb hts (fun w h => List.mem_cons_of_mem _ (List.mem_append_right _ (List.mem_append_right _ (List.mem_append_right _ (List.mem_append_right _ (List.mem_append_right _ (List.mem_append_left _ h))))))) hown hK hP 15 rfl rfl 2 (by decide) (hts (.fieldLink RX11 187 "SagMemory$State" "crossed" "I") (wl_mem 11 rfl)) (fun _ h9 => h9) rfl dX11_waits_28 ?_
      refine lv_iconst (v := (-1)) hx hb dX11_waits_31 (by decide) ?_
      refine lv_ixor hx hb dX11_waits_32 ?_
      refine lv_topi (fun xz11 exz11 => ?_)
      refine lv_iand hx hb dX11_waits_33 ?_
      refine lv_topi (fun xz12 exz12 => ?_)
      rw [hQ]
      exact W.iret (v := xz12) hx hb hr (fun t ht hW => ⟨xz12, rfl, trivial, ht⟩) (fun _ h => absurd h List.not_mem_nil) dX11_waits_34
    · skip
      refine W.eq (g2 := F0 m 28 ls [.ref (sY 1 0), .int xz8]) rfl ?_
      refine va_get (D := (dC, dI)) (ci := 7) (v := .int ((vY 1) 1)) (C := RX7) (T := TX7) (N := 9) hx hb hts (fun w h => List.mem_cons_of_mem _ (List.mem_append_right _ (List.mem_append_right _ (List.mem_append_right _ (List.mem_append_right _ (List.mem_append_right _ (List.mem_append_left _ h))))))) hown hK hP 26 rfl rfl 2 (by decide) (hts (.fieldLink RX11 187 "SagMemory$State" "crossed" "I") (wl_mem 11 rfl)) (fun _ h9 => h9) rfl dX11_waits_28 ?_
      refine lv_iconst (v := (-1)) hx hb dX11_waits_31 (by decide) ?_
      refine lv_ixor hx hb dX11_waits_32 ?_
      refine lv_topi (fun xz13 exz13 => ?_)
      refine lv_iand hx hb dX11_waits_33 ?_
      refine lv_topi (fun xz14 exz14 => ?_)
      rw [hQ]
      exact W.iret (v := xz14) hx hb hr (fun t ht hW => ⟨xz14, rfl, trivial, ht⟩) (fun _ h => absurd h List.not_mem_nil) dX11_waits_34
    · skip
      refine W.eq (g2 := F0 m 28 ls [.ref (sY 2 0), .int xz8]) rfl ?_
      refine va_get (D := (dC, dI)) (ci := 7) (v := .int ((vY 2) 1)) (C := RX7) (T := TX7) (N := 9) hx hb hts (fun w h => List.mem_cons_of_mem _ (List.mem_append_right _ (List.mem_append_right _ (List.mem_append_right _ (List.mem_append_right _ (List.mem_append_right _ (List.mem_append_left _ h))))))) hown hK hP 37 rfl rfl 2 (by decide) (hts (.fieldLink RX11 187 "SagMemory$State" "crossed" "I") (wl_mem 11 rfl)) (fun _ h9 => h9) rfl dX11_waits_28 ?_
      refine lv_iconst (v := (-1)) hx hb dX11_waits_31 (by decide) ?_
      refine lv_ixor hx hb dX11_waits_32 ?_
      refine lv_topi (fun xz15 exz15 => ?_)
      refine lv_iand hx hb dX11_waits_33 ?_
      refine lv_topi (fun xz16 exz16 => ?_)
      rw [hQ]
      exact W.iret (v := xz16) hx hb hr (fun t ht hW => ⟨xz16, rfl, trivial, ht⟩) (fun _ h => absurd h List.not_mem_nil) dX11_waits_34
    · skip
      refine W.eq (g2 := F0 m 28 ls [.ref (sY 3 0), .int xz8]) rfl ?_
      refine va_get (D := (dC, dI)) (ci := 7) (v := .int ((vY 3) 1)) (C := RX7) (T := TX7) (N := 9) hx hb hts (fun w h => List.mem_cons_of_mem _ (List.mem_append_right _ (List.mem_append_right _ (List.mem_append_right _ (List.mem_append_right _ (List.mem_append_right _ (List.mem_append_left _ h))))))) hown hK hP 48 rfl rfl 2 (by decide) (hts (.fieldLink RX11 187 "SagMemory$State" "crossed" "I") (wl_mem 11 rfl)) (fun _ h9 => h9) rfl dX11_waits_28 ?_
      refine lv_iconst (v := (-1)) hx hb dX11_waits_31 (by decide) ?_
      refine lv_ixor hx hb dX11_waits_32 ?_
      refine lv_topi (fun xz17 exz17 => ?_)
      refine lv_iand hx hb dX11_waits_33 ?_
      refine lv_topi (fun xz18 exz18 => ?_)
      rw [hQ]
      exact W.iret (v := xz18) hx hb hr (fun t ht hW => ⟨xz18, rfl, trivial, ht⟩) (fun _ h => absurd h List.not_mem_nil) dX11_waits_34
    · skip
      refine W.eq (g2 := F0 m 28 ls [.ref (sY 4 0), .int xz8]) rfl ?_
      refine va_get (D := (dC, dI)) (ci := 7) (v := .int ((vY 4) 1)) (C := RX7) (T := TX7) (N := 9) hx hb hts (fun w h => List.mem_cons_of_mem _ (List.mem_append_right _ (List.mem_append_right _ (List.mem_append_right _ (List.mem_append_right _ (List.mem_append_right _ (List.mem_append_left _ h))))))) hown hK hP 59 rfl rfl 2 (by decide) (hts (.fieldLink RX11 187 "SagMemory$State" "crossed" "I") (wl_mem 11 rfl)) (fun _ h9 => h9) rfl dX11_waits_28 ?_
      refine lv_iconst (v := (-1)) hx hb dX11_waits_31 (by decide) ?_
      refine lv_ixor hx hb dX11_waits_32 ?_
      refine lv_topi (fun xz19 exz19 => ?_)
      refine lv_iand hx hb dX11_waits_33 ?_
      refine lv_topi (fun xz20 exz20 => ?_)
      rw [hQ]
      exact W.iret (v := xz20) hx hb hr (fun t ht hW => ⟨xz20, rfl, trivial, ht⟩) (fun _ h => absurd h List.not_mem_nil) dX11_waits_34
    · skip
      refine W.eq (g2 := F0 m 28 ls [.ref (sY 5 0), .int xz8]) rfl ?_
      refine va_get (D := (dC, dI)) (ci := 7) (v := .int ((vY 5) 1)) (C := RX7) (T := TX7) (N := 9) hx hb hts (fun w h => List.mem_cons_of_mem _ (List.mem_append_right _ (List.mem_append_right _ (List.mem_append_right _ (List.mem_append_right _ (List.mem_append_right _ (List.mem_append_left _ h))))))) hown hK hP 70 rfl rfl 2 (by decide) (hts (.fieldLink RX11 187 "SagMemory$State" "crossed" "I") (wl_mem 11 rfl)) (fun _ h9 => h9) rfl dX11_waits_28 ?_
      refine lv_iconst (v := (-1)) hx hb dX11_waits_31 (by decide) ?_
      refine lv_ixor hx hb dX11_waits_32 ?_
      refine lv_topi (fun xz21 exz21 => ?_)
      refine lv_iand hx hb dX11_waits_33 ?_
      refine lv_topi (fun xz22 exz22 => ?_)
      rw [hQ]
      exact W.iret (v := xz22) hx hb hr (fun t ht hW => ⟨xz22, rfl, trivial, ht⟩) (fun _ h => absurd h List.not_mem_nil) dX11_waits_34
    · skip
      refine W.eq (g2 := F0 m 28 ls [.ref (sY 6 0), .int xz8]) rfl ?_
      refine va_get (D := (dC, dI)) (ci := 7) (v := .int ((vY 6) 1)) (C := RX7) (T := TX7) (N := 9) hx hb hts (fun w h => List.mem_cons_of_mem _ (List.mem_append_right _ (List.mem_append_right _ (List.mem_append_right _ (List.mem_append_right _ (List.mem_append_right _ (List.mem_append_left _ h))))))) hown hK hP 81 rfl rfl 2 (by decide) (hts (.fieldLink RX11 187 "SagMemory$State" "crossed" "I") (wl_mem 11 rfl)) (fun _ h9 => h9) rfl dX11_waits_28 ?_
      refine lv_iconst (v := (-1)) hx hb dX11_waits_31 (by decide) ?_
      refine lv_ixor hx hb dX11_waits_32 ?_
      refine lv_topi (fun xz23 exz23 => ?_)
      refine lv_iand hx hb dX11_waits_33 ?_
      refine lv_topi (fun xz24 exz24 => ?_)
      rw [hQ]
      exact W.iret (v := xz24) hx hb hr (fun t ht hW => ⟨xz24, rfl, trivial, ht⟩) (fun _ h => absurd h List.not_mem_nil) dX11_waits_34
    · skip
      refine W.eq (g2 := F0 m 28 ls [.ref (sY 7 0), .int xz8]) rfl ?_
      refine va_get (D := (dC, dI)) (ci := 7) (v := .int ((vY 7) 1)) (C := RX7) (T := TX7) (N := 9) hx hb hts (fun w h => List.mem_cons_of_mem _ (List.mem_append_right _ (List.mem_append_right _ (List.mem_append_right _ (List.mem_append_right _ (List.mem_append_right _ (List.mem_append_left _ h))))))) hown hK hP 92 rfl rfl 2 (by decide) (hts (.fieldLink RX11 187 "SagMemory$State" "crossed" "I") (wl_mem 11 rfl)) (fun _ h9 => h9) rfl dX11_waits_28 ?_
      refine lv_iconst (v := (-1)) hx hb dX11_waits_31 (by decide) ?_
      refine lv_ixor hx hb dX11_waits_32 ?_
      refine lv_topi (fun xz25 exz25 => ?_)
      refine lv_iand hx hb dX11_waits_33 ?_
      refine lv_topi (fun xz26 exz26 => ?_)
      rw [hQ]
      exact W.iret (v := xz26) hx hb hr (fun t ht hW => ⟨xz26, rfl, trivial, ht⟩) (fun _ h => absurd h List.not_mem_nil) dX11_waits_34
  · skip
    have zz27 : ¬ rz2.toInt = (0 : Int) := fun h9 => cz4 (zi_eq.mpr h9)
    refine lv_bipush (v := (-2)) hx hb dX11_waits_7 (by decide) ?_
    rw [hQ]
    exact W.iret (v := (-2 : Int32)) hx hb hr (fun t ht hW => ⟨(-2 : Int32), rfl, trivial, ht⟩) (fun _ h => absurd h List.not_mem_nil) dX11_waits_9
def wk_c_X11_deep : List Cond := .code yX11_deep cX11_deep 3 (some .int) :: ([.methodLink RX11 190 yX11_hasBoth, .instanceMethod yX11_hasBoth, .selects RX11 yX11_hasBoth yX11_hasBoth, .initialized RX11, .fieldLink RX11 45 "SagMemory" "story" "LSagMemory$Story;", .methodLink RX11 165 yX8_behind, .instanceMethod yX8_behind, .selects RX8 yX8_behind yX8_behind, .initialized RX8, .fieldLink RX11 194 "SagMemory$State" "memories" "[LSagMemory$Memory;", .fieldLink RX11 198 "SagMemory$Memory" "size" "I"] ++ (wk_c_X11_hasBoth ++ (wsX110 ++ (wk_c_X8_behind ++ (wsX70 ++ (wsX20 ++ []))))))
theorem wkg_c_X11_deep : wk_c_X11_deep.all goodWord = true := by decide +kernel
set_option maxHeartbeats 4000000 in
set_option maxRecDepth 100000 in
theorem c_X11_deep (l : Launch) (dC : Nat → ClassId) (dI : Nat → Nat → Nat) (k : Nat → ClassId) (qX : Nat → Nat) (tapeX : Nat) (actsX : Nat) (nowX : Nat) (trialX : Nat) (attemptX : Nat) (orderSearchX : Nat) (routeSearchX : Nat) (setSearchX : Nat) (probeX : Nat) (slot0X : Nat) (slot1X : Nat) (slot2X : Nat) (slot3X : Nat) (image0X : Nat) (image1X : Nat) (image2X : Nat) (aX : Nat → Nat → Int32) (qV : Nat → Nat) (vV : Nat → Int32) (bV : Nat → Int32) (cV : Nat → Int32) (wV : Nat → Int32) (aV : Nat → Nat → Int32) (eV : Nat → Nat → Int32) (qY : Nat → Nat) (sY : Nat → Nat → Nat) (planY : Nat) (vY : Nat → Nat → Int32) (nY : Nat → Nat → Int32) (aY : Nat → Nat → Nat → Int32) (p1 : Int32) (p2 : Int32) (hbV : Rg 0 3 bV) (hcV : Rg 0 7 cV) (hwV : Rg 0 5 wV) (heV : RgA 0 99 eV) (hnY : ∀ t9, Rg 0 8 (nY t9)) : Met l yX11_deep wk_c_X11_deep ({ frames := 2, cells := 0, slots := 0, locals := 43 }) (va_Pc [.ref (qX 0), .int p1, .int p2] (fun U => va_P (dC, dI) vwCl (List.flatten [(wSag qX k tapeX (qV 0) actsX nowX trialX (qY 0) attemptX orderSearchX routeSearchX setSearchX probeX slot0X slot1X slot2X slot3X image0X image1X image2X aX), (wValley qV k vV bV cV wV aV eV), (wStoO qY k (qV 0) planY (sY 0 0) (sY 1 0) (sY 2 0) (sY 3 0) (sY 4 0) (sY 5 0) (sY 6 0) (sY 7 0)), (wState (sY 0) k (vY 0) (nY 0) (aY 0)), (wState (sY 1) k (vY 1) (nY 1) (aY 1)), (wState (sY 2) k (vY 2) (nY 2) (aY 2)), (wState (sY 3) k (vY 3) (nY 3) (aY 3)), (wState (sY 4) k (vY 4) (nY 4) (aY 4)), (wState (sY 5) k (vY 5) (nY 5) (aY 5)), (wState (sY 6) k (vY 6) (nY 6) (aY 6)), (wState (sY 7) k (vY 7) (nY 7) (aY 7))]) U.heap ∧ va_K (dC, dI) vwCl (tK k) U)) (vp_Si (fun r : Int32 => True)) 0 0 (fun _ => False) := by
  refine Met.ofW (cc := cX11_deep) (maxL := 3) (ret := (some .int)) (by decide) rfl ?_
  intro p e s m args below meth c s₁ B hml hv
  obtain ⟨rfl, hP, hK⟩ := hv
  have hx := B.exec
  have hb := B.bytes
  have hr := B.returns
  have hts := atoms_spec (ws := wk_c_X11_deep) B.pre
  have hown : s.vm.findClass RX11 = some m.cls := findClass_of_methodNamed B.named
  have hlocks := B.notSynchronized
  have hP : va_P (dC, dI) vwCl (List.flatten [(wSag qX k tapeX (qV 0) actsX nowX trialX (qY 0) attemptX orderSearchX routeSearchX setSearchX probeX slot0X slot1X slot2X slot3X image0X image1X image2X aX), (wValley qV k vV bV cV wV aV eV), (wStoO qY k (qV 0) planY (sY 0 0) (sY 1 0) (sY 2 0) (sY 3 0) (sY 4 0) (sY 5 0) (sY 6 0) (sY 7 0)), (wState (sY 0) k (vY 0) (nY 0) (aY 0)), (wState (sY 1) k (vY 1) (nY 1) (aY 1)), (wState (sY 2) k (vY 2) (nY 2) (aY 2)), (wState (sY 3) k (vY 3) (nY 3) (aY 3)), (wState (sY 4) k (vY 4) (nY 4) (aY 4)), (wState (sY 5) k (vY 5) (nY 5) (aY 5)), (wState (sY 6) k (vY 6) (nY 6) (aY 6)), (wState (sY 7) k (vY 7) (nY 7) (aY 7))]) s.heap := hP
  have hl := lv_entry ([.ref (qX 0), .int p1, .int p2]) (n := 3) (Nat.le_of_ble_eq_true rfl)
  rw [lg_entry_eq]
  generalize (lg_sl ([.ref (qX 0), .int p1, .int p2]) ++ List.replicate (3 - (lg_sl ([.ref (qX 0), .int p1, .int p2])).length) Slot.unset).toArray = ls at hl ⊢
  have hl : lv_has ls 3 [(0, .ref (qX 0)), (1, .int p1), (2, .int p2)] := hl
  refine w_gen (fun Q hQ => ?_)
  refine lv_aload_n hx hb dX11_deep_0 rfl (lv_at hl 0 rfl) ?_
  refine lv_iload_n hx hb dX11_deep_1 rfl (lv_at hl 1 rfl) ?_
  refine lv_iload_n hx hb dX11_deep_2 rfl (lv_at hl 2 rfl) ?_
  have hPc := hP.sub (ws' := (List.flatten [(wSag qX k tapeX (qV 0) actsX nowX trialX (qY 0) attemptX orderSearchX routeSearchX setSearchX probeX slot0X slot1X slot2X slot3X image0X image1X image2X aX), (wValley qV k vV bV cV wV aV eV)])) [0, 1, 2, 3, 4, 5, 6, 7, 8, 9, 10, 11, 12] rfl
  refine vp_callSi (va_Run.run (va_runV (As := [.int p1, .int p2]) (rest := []) ⟨hx, hb, hml, hown, hts⟩ (c_X11_hasBoth l dC dI k qX tapeX actsX nowX trialX (qY 0) attemptX orderSearchX routeSearchX setSearchX probeX slot0X slot1X slot2X slot3X image0X image1X image2X aX qV vV bV cV wV aV eV p1 p2 hbV hcV hwV heV) (cwV 2 hts (gk_V (wl_mem 0 rfl) (wl_mem 1 rfl) (wl_mem 2 rfl) (wl_mem 3 rfl) (fun w h => List.mem_cons_of_mem _ (List.mem_append_right _ (List.mem_append_left _ h))) wkg_c_X11_hasBoth) rfl rfl rfl (by decide +kernel) ⟨Nat.le_of_ble_eq_true rfl, Nat.le_of_ble_eq_true rfl⟩) ⟨fun a U g mk q => by obtain ⟨q0, qP, qK⟩ := q; exact ⟨q0, qP, va_K.moved (u := U) (U := U.calling g mk a) (Vm.Alike.refl U.vm) qK⟩, va_recv hK hPc (ci := 11) (q0 := 0) rfl rfl, fun U hU hW => ⟨rfl, by rw [hU]; exact hPc, va_K.moved hW.alike hK⟩⟩ rfl rfl hl.1 rfl (lv_room (Nat.le_of_ble_eq_true rfl)) dX11_deep_3 ⟨Nat.le_of_ble_eq_true rfl, Nat.le_of_ble_eq_true rfl⟩)) (fun rz2 gz1 => ?_)
  clear hPc
  rcases gz1 with ⟨er, cz3⟩ | ⟨er, cz4, cz5⟩ | ⟨er, cz6, cz7, cz8⟩ | ⟨er, cz9, cz10, cz11, cz12⟩ | ⟨er, cz13, cz14, cz15, cz16⟩
  · obtain rfl := er.symm
    have bz17 := fb_rng p1
    have zz18 : p1.toInt < (0 : Int) := zi_lt.mp cz3
    refine lv_if_ne (tgt := 12) hx hb dX11_deep_6 (by decide) (fun cz19 => ?_) (fun cz19 => ?_)
    · skip
      exact absurd cz19 (by decide)
    · skip
      refine lv_bipush (v := (-2)) hx hb dX11_deep_9 (by decide) ?_
      rw [hQ]
      exact W.iret (v := (-2 : Int32)) hx hb hr (fun t ht hW => ⟨(-2 : Int32), rfl, trivial, ht⟩) (fun _ h => absurd h List.not_mem_nil) dX11_deep_11
  · obtain rfl := er.symm
    have bz20 := fb_rng p1
    have zz21 : ¬ p1.toInt < (0 : Int) := fun h9 => cz4 (zi_lt.mpr h9)
    have bz22 := hbV 0
    have zz23 : (bV 0).toInt ≤ p1.toInt := zi_le.mp cz5
    refine lv_if_ne (tgt := 12) hx hb dX11_deep_6 (by decide) (fun cz24 => ?_) (fun cz24 => ?_)
    · skip
      exact absurd cz24 (by decide)
    · skip
      refine lv_bipush (v := (-2)) hx hb dX11_deep_9 (by decide) ?_
      rw [hQ]
      exact W.iret (v := (-2 : Int32)) hx hb hr (fun t ht hW => ⟨(-2 : Int32), rfl, trivial, ht⟩) (fun _ h => absurd h List.not_mem_nil) dX11_deep_11
  · obtain rfl := er.symm
    have bz25 := fb_rng p1
    have zz26 : ¬ p1.toInt < (0 : Int) := fun h9 => cz6 (zi_lt.mpr h9)
    have bz27 := hbV 0
    have zz28 : ¬ (bV 0).toInt ≤ p1.toInt := fun h9 => cz7 (zi_le.mpr h9)
    have bz29 := fb_rng p2
    have zz30 : p2.toInt < (0 : Int) := zi_lt.mp cz8
    refine lv_if_ne (tgt := 12) hx hb dX11_deep_6 (by decide) (fun cz31 => ?_) (fun cz31 => ?_)
    · skip
      exact absurd cz31 (by decide)
    · skip
      refine lv_bipush (v := (-2)) hx hb dX11_deep_9 (by decide) ?_
      rw [hQ]
      exact W.iret (v := (-2 : Int32)) hx hb hr (fun t ht hW => ⟨(-2 : Int32), rfl, trivial, ht⟩) (fun _ h => absurd h List.not_mem_nil) dX11_deep_11
  · obtain rfl := er.symm
    have bz32 := fb_rng p1
    have zz33 : ¬ p1.toInt < (0 : Int) := fun h9 => cz9 (zi_lt.mpr h9)
    have bz34 := hbV 0
    have zz35 : ¬ (bV 0).toInt ≤ p1.toInt := fun h9 => cz10 (zi_le.mpr h9)
    have bz36 := fb_rng p2
    have zz37 : ¬ p2.toInt < (0 : Int) := fun h9 => cz11 (zi_lt.mpr h9)
    have bz38 := hcV 0
    have zz39 : (cV 0).toInt ≤ p2.toInt := zi_le.mp cz12
    refine lv_if_ne (tgt := 12) hx hb dX11_deep_6 (by decide) (fun cz40 => ?_) (fun cz40 => ?_)
    · skip
      exact absurd cz40 (by decide)
    · skip
      refine lv_bipush (v := (-2)) hx hb dX11_deep_9 (by decide) ?_
      rw [hQ]
      exact W.iret (v := (-2 : Int32)) hx hb hr (fun t ht hW => ⟨(-2 : Int32), rfl, trivial, ht⟩) (fun _ h => absurd h List.not_mem_nil) dX11_deep_11
  · obtain rfl := er.symm
    have bz41 := fb_rng p1
    have zz42 : ¬ p1.toInt < (0 : Int) := fun h9 => cz13 (zi_lt.mpr h9)
    have bz43 := hbV 0
    have zz44 : ¬ (bV 0).toInt ≤ p1.toInt := fun h9 => cz14 (zi_le.mpr h9)
    have bz45 := fb_rng p2
    have zz46 : ¬ p2.toInt < (0 : Int) := fun h9 => cz15 (zi_lt.mpr h9)
    have bz47 := hcV 0
    have zz48 : ¬ (cV 0).toInt ≤ p2.toInt := fun h9 => cz16 (zi_le.mpr h9)
    refine lv_if_ne (tgt := 12) hx hb dX11_deep_6 (by decide) (fun cz49 => ?_) (fun cz49 => ?_)
    · skip
      refine lv_aload_n hx hb dX11_deep_12 rfl (lv_at hl 0 rfl) ?_
      refine va_get (D := (dC, dI)) (ci := 11) (v := .ref (qY 0)) (C := RX11) (T := TX11) (N := 15) hx hb hts (fun w h => List.mem_cons_of_mem _ (List.mem_append_right _ (List.mem_append_right _ (List.mem_append_left _ h)))) hown hK hP 0 rfl rfl 5 (by decide) (hts (.fieldLink RX11 45 "SagMemory" "story" "LSagMemory$Story;") (wl_mem 4 rfl)) (fun _ h9 => h9) rfl dX11_deep_13 ?_
      refine lv_iload_n hx hb dX11_deep_16 rfl (lv_at hl 2 rfl) ?_
      have hPc : va_P (dC, dI) vwCl (List.flatten [(wStoO qY k (qV 0) planY (sY 0 0) (sY 1 0) (sY 2 0) (sY 3 0) (sY 4 0) (sY 5 0) (sY 6 0) (sY 7 0)), (wState (sY 0) k (vY 0) (nY 0) (aY 0)), (wState (sY 1) k (vY 1) (nY 1) (aY 1)), (wState (sY 2) k (vY 2) (nY 2) (aY 2)), (wState (sY 3) k (vY 3) (nY 3) (aY 3)), (wState (sY 4) k (vY 4) (nY 4) (aY 4)), (wState (sY 5) k (vY 5) (nY 5) (aY 5)), (wState (sY 6) k (vY 6) (nY 6) (aY 6)), (wState (sY 7) k (vY 7) (nY 7) (aY 7))]) s.heap := wc_subP0 hP [2, 3, 4, 5, 6, 7, 8, 9, 10] rfl
      refine va_csr (va_Run.run (va_runV (As := [.int p2]) (rest := []) ⟨hx, hb, hml, hown, hts⟩ (c_X8_behind l dC dI k qY sY (qV 0) planY vY nY aY p2 hnY) (cwV 1 hts (gk_V (wl_mem 5 rfl) (wl_mem 6 rfl) (wl_mem 7 rfl) (wl_mem 8 rfl) (fun w h => List.mem_cons_of_mem _ (List.mem_append_right _ (List.mem_append_right _ (List.mem_append_right _ (List.mem_append_left _ h))))) wkg_c_X8_behind) rfl rfl rfl (by decide +kernel) ⟨Nat.le_of_ble_eq_true rfl, Nat.le_of_ble_eq_true rfl⟩) ⟨fun a U g mk q => by obtain ⟨q0, qP, qK⟩ := q; exact ⟨q0, qP, va_K.moved (u := U) (U := U.calling g mk a) (Vm.Alike.refl U.vm) qK⟩, va_recv hK hPc (ci := 8) (q0 := 0) rfl rfl, fun U hU hW => ⟨rfl, by rw [hU]; exact hPc, va_K.moved hW.alike hK⟩⟩ rfl rfl hl.1 rfl (lv_room (Nat.le_of_ble_eq_true rfl)) dX11_deep_17 ⟨Nat.le_of_ble_eq_true rfl, Nat.le_of_ble_eq_true rfl⟩)) (fun rz51 gz50 => ?_)
      clear hPc
      rcases gz50 with ⟨rfl, cz52⟩ | ⟨rfl, cz53, cz54⟩ | ⟨rfl, cz55, cz56, cz57⟩ | ⟨rfl, cz58, cz59, cz60⟩ | ⟨rfl, cz61, cz62, cz63⟩ | ⟨rfl, cz64, cz65, cz66⟩ | ⟨rfl, cz67, cz68, cz69⟩ | ⟨rfl, cz70, cz71, cz72⟩ | ⟨rfl, cz73, cz74, cz75⟩
      · skip
        have zz76 : p2.toInt < (0 : Int) := zi_lt.mp cz52
        omega
      · skip
        have zz77 : ¬ p2.toInt < (0 : Int) := fun h9 => cz53 (zi_lt.mpr h9)
        have zz78 : (7 : Int) ≤ p2.toInt := zi_le.mp cz54
        omega
      · skip
        have zz79 : ¬ p2.toInt < (0 : Int) := fun h9 => cz55 (zi_lt.mpr h9)
        have zz80 : ¬ (7 : Int) ≤ p2.toInt := fun h9 => cz56 (zi_le.mpr h9)
        have zz81 : p2.toInt = (0 : Int) := zi_eq.mp cz57
        refine W.eq (g2 := F0 m 20 ls [.ref (sY 1 0)]) rfl ?_
        refine va_get (D := (dC, dI)) (ci := 7) (v := .ref (sY 1 1)) (C := RX7) (T := TX7) (N := 9) hx hb hts (fun w h => List.mem_cons_of_mem _ (List.mem_append_right _ (List.mem_append_right _ (List.mem_append_right _ (List.mem_append_right _ (List.mem_append_left _ h)))))) hown hK hP 26 rfl rfl 0 (by decide) (hts (.fieldLink RX11 194 "SagMemory$State" "memories" "[LSagMemory$Memory;") (wl_mem 9 rfl)) (fun _ h9 => h9) rfl dX11_deep_20 ?_
        refine lv_iload_n hx hb dX11_deep_23 rfl (lv_at hl 1 rfl) ?_
        rcases (show p1 = 0 ∨ p1 = 1 ∨ p1 = 2 by simp only [zi_eq]; show p1.toInt = 0 ∨ p1.toInt = 1 ∨ p1.toInt = 2; omega) with cz82 | cz82 | cz82
        · skip
          have zz83 : p1.toInt = (0 : Int) := zi_eq.mp cz82
          refine W.eq (g2 := F0 m 24 ls [.int 0, .ref (sY 1 1)]) (by rw [cz82]) ?_
          refine va_aldq hx hb hK hP 27 4 rfl rfl (by unfold vp_in; decide) dX11_deep_24 ?_
          refine W.eq (g2 := F0 m 25 ls [.ref (sY 1 2)]) rfl ?_
          refine va_get (D := (dC, dI)) (ci := 2) (v := .int ((nY 1) 0)) (C := RX2) (T := TX2) (N := 3) hx hb hts (fun w h => List.mem_cons_of_mem _ (List.mem_append_right _ (List.mem_append_right _ (List.mem_append_right _ (List.mem_append_right _ (List.mem_append_right _ (List.mem_append_left _ h))))))) hown hK hP 28 rfl rfl 2 (by decide) (hts (.fieldLink RX11 198 "SagMemory$Memory" "size" "I") (wl_mem 10 rfl)) (fun _ h9 => h9) rfl dX11_deep_25 ?_
          have bz84 := (hnY 1) 0
          rw [hQ]
          exact W.iret (v := ((nY 1) 0)) hx hb hr (fun t ht hW => ⟨((nY 1) 0), rfl, trivial, ht⟩) (fun _ h => absurd h List.not_mem_nil) dX11_deep_28
        · skip
          have zz85 : p1.toInt = (1 : Int) := zi_eq.mp cz82
          refine W.eq (g2 := F0 m 24 ls [.int 1, .ref (sY 1 1)]) (by rw [cz82]) ?_
          refine va_aldq hx hb hK hP 27 4 rfl rfl (by unfold vp_in; decide) dX11_deep_24 ?_
          refine W.eq (g2 := F0 m 25 ls [.ref (sY 1 5)]) rfl ?_
          refine va_get (D := (dC, dI)) (ci := 2) (v := .int ((nY 1) 1)) (C := RX2) (T := TX2) (N := 3) hx hb hts (fun w h => List.mem_cons_of_mem _ (List.mem_append_right _ (List.mem_append_right _ (List.mem_append_right _ (List.mem_append_right _ (List.mem_append_right _ (List.mem_append_left _ h))))))) hown hK hP 31 rfl rfl 2 (by decide) (hts (.fieldLink RX11 198 "SagMemory$Memory" "size" "I") (wl_mem 10 rfl)) (fun _ h9 => h9) rfl dX11_deep_25 ?_
          have bz86 := (hnY 1) 1
          rw [hQ]
          exact W.iret (v := ((nY 1) 1)) hx hb hr (fun t ht hW => ⟨((nY 1) 1), rfl, trivial, ht⟩) (fun _ h => absurd h List.not_mem_nil) dX11_deep_28
        · skip
          have zz87 : p1.toInt = (2 : Int) := zi_eq.mp cz82
          refine W.eq (g2 := F0 m 24 ls [.int 2, .ref (sY 1 1)]) (by rw [cz82]) ?_
          refine va_aldq hx hb hK hP 27 4 rfl rfl (by unfold vp_in; decide) dX11_deep_24 ?_
          refine W.eq (g2 := F0 m 25 ls [.ref (sY 1 8)]) rfl ?_
          refine va_get (D := (dC, dI)) (ci := 2) (v := .int ((nY 1) 2)) (C := RX2) (T := TX2) (N := 3) hx hb hts (fun w h => List.mem_cons_of_mem _ (List.mem_append_right _ (List.mem_append_right _ (List.mem_append_right _ (List.mem_append_right _ (List.mem_append_right _ (List.mem_append_left _ h))))))) hown hK hP 34 rfl rfl 2 (by decide) (hts (.fieldLink RX11 198 "SagMemory$Memory" "size" "I") (wl_mem 10 rfl)) (fun _ h9 => h9) rfl dX11_deep_25 ?_
          have bz88 := (hnY 1) 2
          rw [hQ]
          exact W.iret (v := ((nY 1) 2)) hx hb hr (fun t ht hW => ⟨((nY 1) 2), rfl, trivial, ht⟩) (fun _ h => absurd h List.not_mem_nil) dX11_deep_28
      · skip
        have zz89 : ¬ p2.toInt < (0 : Int) := fun h9 => cz58 (zi_lt.mpr h9)
        have zz90 : ¬ (7 : Int) ≤ p2.toInt := fun h9 => cz59 (zi_le.mpr h9)
        have zz91 : p2.toInt = (1 : Int) := zi_eq.mp cz60
        refine W.eq (g2 := F0 m 20 ls [.ref (sY 2 0)]) rfl ?_
        refine va_get (D := (dC, dI)) (ci := 7) (v := .ref (sY 2 1)) (C := RX7) (T := TX7) (N := 9) hx hb hts (fun w h => List.mem_cons_of_mem _ (List.mem_append_right _ (List.mem_append_right _ (List.mem_append_right _ (List.mem_append_right _ (List.mem_append_left _ h)))))) hown hK hP 37 rfl rfl 0 (by decide) (hts (.fieldLink RX11 194 "SagMemory$State" "memories" "[LSagMemory$Memory;") (wl_mem 9 rfl)) (fun _ h9 => h9) rfl dX11_deep_20 ?_
        refine lv_iload_n hx hb dX11_deep_23 rfl (lv_at hl 1 rfl) ?_
        rcases (show p1 = 0 ∨ p1 = 1 ∨ p1 = 2 by simp only [zi_eq]; show p1.toInt = 0 ∨ p1.toInt = 1 ∨ p1.toInt = 2; omega) with cz92 | cz92 | cz92
        · skip
          have zz93 : p1.toInt = (0 : Int) := zi_eq.mp cz92
          refine W.eq (g2 := F0 m 24 ls [.int 0, .ref (sY 2 1)]) (by rw [cz92]) ?_
          refine va_aldq hx hb hK hP 38 4 rfl rfl (by unfold vp_in; decide) dX11_deep_24 ?_
          refine W.eq (g2 := F0 m 25 ls [.ref (sY 2 2)]) rfl ?_
          refine va_get (D := (dC, dI)) (ci := 2) (v := .int ((nY 2) 0)) (C := RX2) (T := TX2) (N := 3) hx hb hts (fun w h => List.mem_cons_of_mem _ (List.mem_append_right _ (List.mem_append_right _ (List.mem_append_right _ (List.mem_append_right _ (List.mem_append_right _ (List.mem_append_left _ h))))))) hown hK hP 39 rfl rfl 2 (by decide) (hts (.fieldLink RX11 198 "SagMemory$Memory" "size" "I") (wl_mem 10 rfl)) (fun _ h9 => h9) rfl dX11_deep_25 ?_
          have bz94 := (hnY 2) 0
          rw [hQ]
          exact W.iret (v := ((nY 2) 0)) hx hb hr (fun t ht hW => ⟨((nY 2) 0), rfl, trivial, ht⟩) (fun _ h => absurd h List.not_mem_nil) dX11_deep_28
        · skip
          have zz95 : p1.toInt = (1 : Int) := zi_eq.mp cz92
          refine W.eq (g2 := F0 m 24 ls [.int 1, .ref (sY 2 1)]) (by rw [cz92]) ?_
          refine va_aldq hx hb hK hP 38 4 rfl rfl (by unfold vp_in; decide) dX11_deep_24 ?_
          refine W.eq (g2 := F0 m 25 ls [.ref (sY 2 5)]) rfl ?_
          refine va_get (D := (dC, dI)) (ci := 2) (v := .int ((nY 2) 1)) (C := RX2) (T := TX2) (N := 3) hx hb hts (fun w h => List.mem_cons_of_mem _ (List.mem_append_right _ (List.mem_append_right _ (List.mem_append_right _ (List.mem_append_right _ (List.mem_append_right _ (List.mem_append_left _ h))))))) hown hK hP 42 rfl rfl 2 (by decide) (hts (.fieldLink RX11 198 "SagMemory$Memory" "size" "I") (wl_mem 10 rfl)) (fun _ h9 => h9) rfl dX11_deep_25 ?_
          have bz96 := (hnY 2) 1
          rw [hQ]
          exact W.iret (v := ((nY 2) 1)) hx hb hr (fun t ht hW => ⟨((nY 2) 1), rfl, trivial, ht⟩) (fun _ h => absurd h List.not_mem_nil) dX11_deep_28
        · skip
          have zz97 : p1.toInt = (2 : Int) := zi_eq.mp cz92
          refine W.eq (g2 := F0 m 24 ls [.int 2, .ref (sY 2 1)]) (by rw [cz92]) ?_
          refine va_aldq hx hb hK hP 38 4 rfl rfl (by unfold vp_in; decide) dX11_deep_24 ?_
          refine W.eq (g2 := F0 m 25 ls [.ref (sY 2 8)]) rfl ?_
          refine va_get (D := (dC, dI)) (ci := 2) (v := .int ((nY 2) 2)) (C := RX2) (T := TX2) (N := 3) hx hb hts (fun w h => List.mem_cons_of_mem _ (List.mem_append_right _ (List.mem_append_right _ (List.mem_append_right _ (List.mem_append_right _ (List.mem_append_right _ (List.mem_append_left _ h))))))) hown hK hP 45 rfl rfl 2 (by decide) (hts (.fieldLink RX11 198 "SagMemory$Memory" "size" "I") (wl_mem 10 rfl)) (fun _ h9 => h9) rfl dX11_deep_25 ?_
          have bz98 := (hnY 2) 2
          rw [hQ]
          exact W.iret (v := ((nY 2) 2)) hx hb hr (fun t ht hW => ⟨((nY 2) 2), rfl, trivial, ht⟩) (fun _ h => absurd h List.not_mem_nil) dX11_deep_28
      · skip
        have zz99 : ¬ p2.toInt < (0 : Int) := fun h9 => cz61 (zi_lt.mpr h9)
        have zz100 : ¬ (7 : Int) ≤ p2.toInt := fun h9 => cz62 (zi_le.mpr h9)
        have zz101 : p2.toInt = (2 : Int) := zi_eq.mp cz63
        refine W.eq (g2 := F0 m 20 ls [.ref (sY 3 0)]) rfl ?_
        refine va_get (D := (dC, dI)) (ci := 7) (v := .ref (sY 3 1)) (C := RX7) (T := TX7) (N := 9) hx hb hts (fun w h => List.mem_cons_of_mem _ (List.mem_append_right _ (List.mem_append_right _ (List.mem_append_right _ (List.mem_append_right _ (List.mem_append_left _ h)))))) hown hK hP 48 rfl rfl 0 (by decide) (hts (.fieldLink RX11 194 "SagMemory$State" "memories" "[LSagMemory$Memory;") (wl_mem 9 rfl)) (fun _ h9 => h9) rfl dX11_deep_20 ?_
        refine lv_iload_n hx hb dX11_deep_23 rfl (lv_at hl 1 rfl) ?_
        rcases (show p1 = 0 ∨ p1 = 1 ∨ p1 = 2 by simp only [zi_eq]; show p1.toInt = 0 ∨ p1.toInt = 1 ∨ p1.toInt = 2; omega) with cz102 | cz102 | cz102
        · skip
          have zz103 : p1.toInt = (0 : Int) := zi_eq.mp cz102
          refine W.eq (g2 := F0 m 24 ls [.int 0, .ref (sY 3 1)]) (by rw [cz102]) ?_
          refine va_aldq hx hb hK hP 49 4 rfl rfl (by unfold vp_in; decide) dX11_deep_24 ?_
          refine W.eq (g2 := F0 m 25 ls [.ref (sY 3 2)]) rfl ?_
          refine va_get (D := (dC, dI)) (ci := 2) (v := .int ((nY 3) 0)) (C := RX2) (T := TX2) (N := 3) hx hb hts (fun w h => List.mem_cons_of_mem _ (List.mem_append_right _ (List.mem_append_right _ (List.mem_append_right _ (List.mem_append_right _ (List.mem_append_right _ (List.mem_append_left _ h))))))) hown hK hP 50 rfl rfl 2 (by decide) (hts (.fieldLink RX11 198 "SagMemory$Memory" "size" "I") (wl_mem 10 rfl)) (fun _ h9 => h9) rfl dX11_deep_25 ?_
          have bz104 := (hnY 3) 0
          rw [hQ]
          exact W.iret (v := ((nY 3) 0)) hx hb hr (fun t ht hW => ⟨((nY 3) 0), rfl, trivial, ht⟩) (fun _ h => absurd h List.not_mem_nil) dX11_deep_28
        · skip
          have zz105 : p1.toInt = (1 : Int) := zi_eq.mp cz102
          refine W.eq (g2 := F0 m 24 ls [.int 1, .ref (sY 3 1)]) (by rw [cz102]) ?_
          refine va_aldq hx hb hK hP 49 4 rfl rfl (by unfold vp_in; decide) dX11_deep_24 ?_
          refine W.eq (g2 := F0 m 25 ls [.ref (sY 3 5)]) rfl ?_
          refine va_get (D := (dC, dI)) (ci := 2) (v := .int ((nY 3) 1)) (C := RX2) (T := TX2) (N := 3) hx hb hts (fun w h => List.mem_cons_of_mem _ (List.mem_append_right _ (List.mem_append_right _ (List.mem_append_right _ (List.mem_append_right _ (List.mem_append_right _ (List.mem_append_left _ h))))))) hown hK hP 53 rfl rfl 2 (by decide) (hts (.fieldLink RX11 198 "SagMemory$Memory" "size" "I") (wl_mem 10 rfl)) (fun _ h9 => h9) rfl dX11_deep_25 ?_
          have bz106 := (hnY 3) 1
          rw [hQ]
          exact W.iret (v := ((nY 3) 1)) hx hb hr (fun t ht hW => ⟨((nY 3) 1), rfl, trivial, ht⟩) (fun _ h => absurd h List.not_mem_nil) dX11_deep_28
        · skip
          have zz107 : p1.toInt = (2 : Int) := zi_eq.mp cz102
          refine W.eq (g2 := F0 m 24 ls [.int 2, .ref (sY 3 1)]) (by rw [cz102]) ?_
          refine va_aldq hx hb hK hP 49 4 rfl rfl (by unfold vp_in; decide) dX11_deep_24 ?_
          refine W.eq (g2 := F0 m 25 ls [.ref (sY 3 8)]) rfl ?_
          refine va_get (D := (dC, dI)) (ci := 2) (v := .int ((nY 3) 2)) (C := RX2) (T := TX2) (N := 3) hx hb hts (fun w h => List.mem_cons_of_mem _ (List.mem_append_right _ (List.mem_append_right _ (List.mem_append_right _ (List.mem_append_right _ (List.mem_append_right _ (List.mem_append_left _ h))))))) hown hK hP 56 rfl rfl 2 (by decide) (hts (.fieldLink RX11 198 "SagMemory$Memory" "size" "I") (wl_mem 10 rfl)) (fun _ h9 => h9) rfl dX11_deep_25 ?_
          have bz108 := (hnY 3) 2
          rw [hQ]
          exact W.iret (v := ((nY 3) 2)) hx hb hr (fun t ht hW => ⟨((nY 3) 2), rfl, trivial, ht⟩) (fun _ h => absurd h List.not_mem_nil) dX11_deep_28
      · skip
        have zz109 : ¬ p2.toInt < (0 : Int) := fun h9 => cz64 (zi_lt.mpr h9)
        have zz110 : ¬ (7 : Int) ≤ p2.toInt := fun h9 => cz65 (zi_le.mpr h9)
        have zz111 : p2.toInt = (3 : Int) := zi_eq.mp cz66
        refine W.eq (g2 := F0 m 20 ls [.ref (sY 4 0)]) rfl ?_
        refine va_get (D := (dC, dI)) (ci := 7) (v := .ref (sY 4 1)) (C := RX7) (T := TX7) (N := 9) hx hb hts (fun w h => List.mem_cons_of_mem _ (List.mem_append_right _ (List.mem_append_right _ (List.mem_append_right _ (List.mem_append_right _ (List.mem_append_left _ h)))))) hown hK hP 59 rfl rfl 0 (by decide) (hts (.fieldLink RX11 194 "SagMemory$State" "memories" "[LSagMemory$Memory;") (wl_mem 9 rfl)) (fun _ h9 => h9) rfl dX11_deep_20 ?_
        refine lv_iload_n hx hb dX11_deep_23 rfl (lv_at hl 1 rfl) ?_
        rcases (show p1 = 0 ∨ p1 = 1 ∨ p1 = 2 by simp only [zi_eq]; show p1.toInt = 0 ∨ p1.toInt = 1 ∨ p1.toInt = 2; omega) with cz112 | cz112 | cz112
        · skip
          have zz113 : p1.toInt = (0 : Int) := zi_eq.mp cz112
          refine W.eq (g2 := F0 m 24 ls [.int 0, .ref (sY 4 1)]) (by rw [cz112]) ?_
          refine va_aldq hx hb hK hP 60 4 rfl rfl (by unfold vp_in; decide) dX11_deep_24 ?_
          refine W.eq (g2 := F0 m 25 ls [.ref (sY 4 2)]) rfl ?_
          refine va_get (D := (dC, dI)) (ci := 2) (v := .int ((nY 4) 0)) (C := RX2) (T := TX2) (N := 3) hx hb hts (fun w h => List.mem_cons_of_mem _ (List.mem_append_right _ (List.mem_append_right _ (List.mem_append_right _ (List.mem_append_right _ (List.mem_append_right _ (List.mem_append_left _ h))))))) hown hK hP 61 rfl rfl 2 (by decide) (hts (.fieldLink RX11 198 "SagMemory$Memory" "size" "I") (wl_mem 10 rfl)) (fun _ h9 => h9) rfl dX11_deep_25 ?_
          have bz114 := (hnY 4) 0
          rw [hQ]
          exact W.iret (v := ((nY 4) 0)) hx hb hr (fun t ht hW => ⟨((nY 4) 0), rfl, trivial, ht⟩) (fun _ h => absurd h List.not_mem_nil) dX11_deep_28
        · skip
          have zz115 : p1.toInt = (1 : Int) := zi_eq.mp cz112
          refine W.eq (g2 := F0 m 24 ls [.int 1, .ref (sY 4 1)]) (by rw [cz112]) ?_
          refine va_aldq hx hb hK hP 60 4 rfl rfl (by unfold vp_in; decide) dX11_deep_24 ?_
          refine W.eq (g2 := F0 m 25 ls [.ref (sY 4 5)]) rfl ?_
          refine va_get (D := (dC, dI)) (ci := 2) (v := .int ((nY 4) 1)) (C := RX2) (T := TX2) (N := 3) hx hb hts (fun w h => List.mem_cons_of_mem _ (List.mem_append_right _ (List.mem_append_right _ (List.mem_append_right _ (List.mem_append_right _ (List.mem_append_right _ (List.mem_append_left _ h))))))) hown hK hP 64 rfl rfl 2 (by decide) (hts (.fieldLink RX11 198 "SagMemory$Memory" "size" "I") (wl_mem 10 rfl)) (fun _ h9 => h9) rfl dX11_deep_25 ?_
          have bz116 := (hnY 4) 1
          rw [hQ]
          exact W.iret (v := ((nY 4) 1)) hx hb hr (fun t ht hW => ⟨((nY 4) 1), rfl, trivial, ht⟩) (fun _ h => absurd h List.not_mem_nil) dX11_deep_28
        · skip
          have zz117 : p1.toInt = (2 : Int) := zi_eq.mp cz112
          refine W.eq (g2 := F0 m 24 ls [.int 2, .ref (sY 4 1)]) (by rw [cz112]) ?_
          refine va_aldq hx hb hK hP 60 4 rfl rfl (by unfold vp_in; decide) dX11_deep_24 ?_
          refine W.eq (g2 := F0 m 25 ls [.ref (sY 4 8)]) rfl ?_
          refine va_get (D := (dC, dI)) (ci := 2) (v := .int ((nY 4) 2)) (C := RX2) (T := TX2) (N := 3) hx hb hts (fun w h => List.mem_cons_of_mem _ (List.mem_append_right _ (List.mem_append_right _ (List.mem_append_right _ (List.mem_append_right _ (List.mem_append_right _ (List.mem_append_left _ h))))))) hown hK hP 67 rfl rfl 2 (by decide) (hts (.fieldLink RX11 198 "SagMemory$Memory" "size" "I") (wl_mem 10 rfl)) (fun _ h9 => h9) rfl dX11_deep_25 ?_
          have bz118 := (hnY 4) 2
          rw [hQ]
          exact W.iret (v := ((nY 4) 2)) hx hb hr (fun t ht hW => ⟨((nY 4) 2), rfl, trivial, ht⟩) (fun _ h => absurd h List.not_mem_nil) dX11_deep_28
      · skip
        have zz119 : ¬ p2.toInt < (0 : Int) := fun h9 => cz67 (zi_lt.mpr h9)
        have zz120 : ¬ (7 : Int) ≤ p2.toInt := fun h9 => cz68 (zi_le.mpr h9)
        have zz121 : p2.toInt = (4 : Int) := zi_eq.mp cz69
        refine W.eq (g2 := F0 m 20 ls [.ref (sY 5 0)]) rfl ?_
        refine va_get (D := (dC, dI)) (ci := 7) (v := .ref (sY 5 1)) (C := RX7) (T := TX7) (N := 9) hx hb hts (fun w h => List.mem_cons_of_mem _ (List.mem_append_right _ (List.mem_append_right _ (List.mem_append_right _ (List.mem_append_right _ (List.mem_append_left _ h)))))) hown hK hP 70 rfl rfl 0 (by decide) (hts (.fieldLink RX11 194 "SagMemory$State" "memories" "[LSagMemory$Memory;") (wl_mem 9 rfl)) (fun _ h9 => h9) rfl dX11_deep_20 ?_
        refine lv_iload_n hx hb dX11_deep_23 rfl (lv_at hl 1 rfl) ?_
        rcases (show p1 = 0 ∨ p1 = 1 ∨ p1 = 2 by simp only [zi_eq]; show p1.toInt = 0 ∨ p1.toInt = 1 ∨ p1.toInt = 2; omega) with cz122 | cz122 | cz122
        · skip
          have zz123 : p1.toInt = (0 : Int) := zi_eq.mp cz122
          refine W.eq (g2 := F0 m 24 ls [.int 0, .ref (sY 5 1)]) (by rw [cz122]) ?_
          refine va_aldq hx hb hK hP 71 4 rfl rfl (by unfold vp_in; decide) dX11_deep_24 ?_
          refine W.eq (g2 := F0 m 25 ls [.ref (sY 5 2)]) rfl ?_
          refine va_get (D := (dC, dI)) (ci := 2) (v := .int ((nY 5) 0)) (C := RX2) (T := TX2) (N := 3) hx hb hts (fun w h => List.mem_cons_of_mem _ (List.mem_append_right _ (List.mem_append_right _ (List.mem_append_right _ (List.mem_append_right _ (List.mem_append_right _ (List.mem_append_left _ h))))))) hown hK hP 72 rfl rfl 2 (by decide) (hts (.fieldLink RX11 198 "SagMemory$Memory" "size" "I") (wl_mem 10 rfl)) (fun _ h9 => h9) rfl dX11_deep_25 ?_
          have bz124 := (hnY 5) 0
          rw [hQ]
          exact W.iret (v := ((nY 5) 0)) hx hb hr (fun t ht hW => ⟨((nY 5) 0), rfl, trivial, ht⟩) (fun _ h => absurd h List.not_mem_nil) dX11_deep_28
        · skip
          have zz125 : p1.toInt = (1 : Int) := zi_eq.mp cz122
          refine W.eq (g2 := F0 m 24 ls [.int 1, .ref (sY 5 1)]) (by rw [cz122]) ?_
          refine va_aldq hx hb hK hP 71 4 rfl rfl (by unfold vp_in; decide) dX11_deep_24 ?_
          refine W.eq (g2 := F0 m 25 ls [.ref (sY 5 5)]) rfl ?_
          refine va_get (D := (dC, dI)) (ci := 2) (v := .int ((nY 5) 1)) (C := RX2) (T := TX2) (N := 3) hx hb hts (fun w h => List.mem_cons_of_mem _ (List.mem_append_right _ (List.mem_append_right _ (List.mem_append_right _ (List.mem_append_right _ (List.mem_append_right _ (List.mem_append_left _ h))))))) hown hK hP 75 rfl rfl 2 (by decide) (hts (.fieldLink RX11 198 "SagMemory$Memory" "size" "I") (wl_mem 10 rfl)) (fun _ h9 => h9) rfl dX11_deep_25 ?_
          have bz126 := (hnY 5) 1
          rw [hQ]
          exact W.iret (v := ((nY 5) 1)) hx hb hr (fun t ht hW => ⟨((nY 5) 1), rfl, trivial, ht⟩) (fun _ h => absurd h List.not_mem_nil) dX11_deep_28
        · skip
          have zz127 : p1.toInt = (2 : Int) := zi_eq.mp cz122
          refine W.eq (g2 := F0 m 24 ls [.int 2, .ref (sY 5 1)]) (by rw [cz122]) ?_
          refine va_aldq hx hb hK hP 71 4 rfl rfl (by unfold vp_in; decide) dX11_deep_24 ?_
          refine W.eq (g2 := F0 m 25 ls [.ref (sY 5 8)]) rfl ?_
          refine va_get (D := (dC, dI)) (ci := 2) (v := .int ((nY 5) 2)) (C := RX2) (T := TX2) (N := 3) hx hb hts (fun w h => List.mem_cons_of_mem _ (List.mem_append_right _ (List.mem_append_right _ (List.mem_append_right _ (List.mem_append_right _ (List.mem_append_right _ (List.mem_append_left _ h))))))) hown hK hP 78 rfl rfl 2 (by decide) (hts (.fieldLink RX11 198 "SagMemory$Memory" "size" "I") (wl_mem 10 rfl)) (fun _ h9 => h9) rfl dX11_deep_25 ?_
          have bz128 := (hnY 5) 2
          rw [hQ]
          exact W.iret (v := ((nY 5) 2)) hx hb hr (fun t ht hW => ⟨((nY 5) 2), rfl, trivial, ht⟩) (fun _ h => absurd h List.not_mem_nil) dX11_deep_28
      · skip
        have zz129 : ¬ p2.toInt < (0 : Int) := fun h9 => cz70 (zi_lt.mpr h9)
        have zz130 : ¬ (7 : Int) ≤ p2.toInt := fun h9 => cz71 (zi_le.mpr h9)
        have zz131 : p2.toInt = (5 : Int) := zi_eq.mp cz72
        refine W.eq (g2 := F0 m 20 ls [.ref (sY 6 0)]) rfl ?_
        refine va_get (D := (dC, dI)) (ci := 7) (v := .ref (sY 6 1)) (C := RX7) (T := TX7) (N := 9) hx hb hts (fun w h => List.mem_cons_of_mem _ (List.mem_append_right _ (List.mem_append_right _ (List.mem_append_right _ (List.mem_append_right _ (List.mem_append_left _ h)))))) hown hK hP 81 rfl rfl 0 (by decide) (hts (.fieldLink RX11 194 "SagMemory$State" "memories" "[LSagMemory$Memory;") (wl_mem 9 rfl)) (fun _ h9 => h9) rfl dX11_deep_20 ?_
        refine lv_iload_n hx hb dX11_deep_23 rfl (lv_at hl 1 rfl) ?_
        rcases (show p1 = 0 ∨ p1 = 1 ∨ p1 = 2 by simp only [zi_eq]; show p1.toInt = 0 ∨ p1.toInt = 1 ∨ p1.toInt = 2; omega) with cz132 | cz132 | cz132
        · skip
          have zz133 : p1.toInt = (0 : Int) := zi_eq.mp cz132
          refine W.eq (g2 := F0 m 24 ls [.int 0, .ref (sY 6 1)]) (by rw [cz132]) ?_
          refine va_aldq hx hb hK hP 82 4 rfl rfl (by unfold vp_in; decide) dX11_deep_24 ?_
          refine W.eq (g2 := F0 m 25 ls [.ref (sY 6 2)]) rfl ?_
          refine va_get (D := (dC, dI)) (ci := 2) (v := .int ((nY 6) 0)) (C := RX2) (T := TX2) (N := 3) hx hb hts (fun w h => List.mem_cons_of_mem _ (List.mem_append_right _ (List.mem_append_right _ (List.mem_append_right _ (List.mem_append_right _ (List.mem_append_right _ (List.mem_append_left _ h))))))) hown hK hP 83 rfl rfl 2 (by decide) (hts (.fieldLink RX11 198 "SagMemory$Memory" "size" "I") (wl_mem 10 rfl)) (fun _ h9 => h9) rfl dX11_deep_25 ?_
          have bz134 := (hnY 6) 0
          rw [hQ]
          exact W.iret (v := ((nY 6) 0)) hx hb hr (fun t ht hW => ⟨((nY 6) 0), rfl, trivial, ht⟩) (fun _ h => absurd h List.not_mem_nil) dX11_deep_28
        · skip
          have zz135 : p1.toInt = (1 : Int) := zi_eq.mp cz132
          refine W.eq (g2 := F0 m 24 ls [.int 1, .ref (sY 6 1)]) (by rw [cz132]) ?_
          refine va_aldq hx hb hK hP 82 4 rfl rfl (by unfold vp_in; decide) dX11_deep_24 ?_
          refine W.eq (g2 := F0 m 25 ls [.ref (sY 6 5)]) rfl ?_
          refine va_get (D := (dC, dI)) (ci := 2) (v := .int ((nY 6) 1)) (C := RX2) (T := TX2) (N := 3) hx hb hts (fun w h => List.mem_cons_of_mem _ (List.mem_append_right _ (List.mem_append_right _ (List.mem_append_right _ (List.mem_append_right _ (List.mem_append_right _ (List.mem_append_left _ h))))))) hown hK hP 86 rfl rfl 2 (by decide) (hts (.fieldLink RX11 198 "SagMemory$Memory" "size" "I") (wl_mem 10 rfl)) (fun _ h9 => h9) rfl dX11_deep_25 ?_
          have bz136 := (hnY 6) 1
          rw [hQ]
          exact W.iret (v := ((nY 6) 1)) hx hb hr (fun t ht hW => ⟨((nY 6) 1), rfl, trivial, ht⟩) (fun _ h => absurd h List.not_mem_nil) dX11_deep_28
        · skip
          have zz137 : p1.toInt = (2 : Int) := zi_eq.mp cz132
          refine W.eq (g2 := F0 m 24 ls [.int 2, .ref (sY 6 1)]) (by rw [cz132]) ?_
          refine va_aldq hx hb hK hP 82 4 rfl rfl (by unfold vp_in; decide) dX11_deep_24 ?_
          refine W.eq (g2 := F0 m 25 ls [.ref (sY 6 8)]) rfl ?_
          refine va_get (D := (dC, dI)) (ci := 2) (v := .int ((nY 6) 2)) (C := RX2) (T := TX2) (N := 3) hx hb hts (fun w h => List.mem_cons_of_mem _ (List.mem_append_right _ (List.mem_append_right _ (List.mem_append_right _ (List.mem_append_right _ (List.mem_append_right _ (List.mem_append_left _ h))))))) hown hK hP 89 rfl rfl 2 (by decide) (hts (.fieldLink RX11 198 "SagMemory$Memory" "size" "I") (wl_mem 10 rfl)) (fun _ h9 => h9) rfl dX11_deep_25 ?_
          have bz138 := (hnY 6) 2
          rw [hQ]
          exact W.iret (v := ((nY 6) 2)) hx hb hr (fun t ht hW => ⟨((nY 6) 2), rfl, trivial, ht⟩) (fun _ h => absurd h List.not_mem_nil) dX11_deep_28
      · skip
        have zz139 : ¬ p2.toInt < (0 : Int) := fun h9 => cz73 (zi_lt.mpr h9)
        have zz140 : ¬ (7 : Int) ≤ p2.toInt := fun h9 => cz74 (zi_le.mpr h9)
        have zz141 : p2.toInt = (6 : Int) := zi_eq.mp cz75
        refine W.eq (g2 := F0 m 20 ls [.ref (sY 7 0)]) rfl ?_
        refine va_get (D := (dC, dI)) (ci := 7) (v := .ref (sY 7 1)) (C := RX7) (T := TX7) (N := 9) hx hb hts (fun w h => List.mem_cons_of_mem _ (List.mem_append_right _ (List.mem_append_right _ (List.mem_append_right _ (List.mem_append_right _ (List.mem_append_left _ h)))))) hown hK hP 92 rfl rfl 0 (by decide) (hts (.fieldLink RX11 194 "SagMemory$State" "memories" "[LSagMemory$Memory;") (wl_mem 9 rfl)) (fun _ h9 => h9) rfl dX11_deep_20 ?_
        refine lv_iload_n hx hb dX11_deep_23 rfl (lv_at hl 1 rfl) ?_
        rcases (show p1 = 0 ∨ p1 = 1 ∨ p1 = 2 by simp only [zi_eq]; show p1.toInt = 0 ∨ p1.toInt = 1 ∨ p1.toInt = 2; omega) with cz142 | cz142 | cz142
        · skip
          have zz143 : p1.toInt = (0 : Int) := zi_eq.mp cz142
          refine W.eq (g2 := F0 m 24 ls [.int 0, .ref (sY 7 1)]) (by rw [cz142]) ?_
          refine va_aldq hx hb hK hP 93 4 rfl rfl (by unfold vp_in; decide) dX11_deep_24 ?_
          refine W.eq (g2 := F0 m 25 ls [.ref (sY 7 2)]) rfl ?_
          refine va_get (D := (dC, dI)) (ci := 2) (v := .int ((nY 7) 0)) (C := RX2) (T := TX2) (N := 3) hx hb hts (fun w h => List.mem_cons_of_mem _ (List.mem_append_right _ (List.mem_append_right _ (List.mem_append_right _ (List.mem_append_right _ (List.mem_append_right _ (List.mem_append_left _ h))))))) hown hK hP 94 rfl rfl 2 (by decide) (hts (.fieldLink RX11 198 "SagMemory$Memory" "size" "I") (wl_mem 10 rfl)) (fun _ h9 => h9) rfl dX11_deep_25 ?_
          have bz144 := (hnY 7) 0
          rw [hQ]
          exact W.iret (v := ((nY 7) 0)) hx hb hr (fun t ht hW => ⟨((nY 7) 0), rfl, trivial, ht⟩) (fun _ h => absurd h List.not_mem_nil) dX11_deep_28
        · skip
          have zz145 : p1.toInt = (1 : Int) := zi_eq.mp cz142
          refine W.eq (g2 := F0 m 24 ls [.int 1, .ref (sY 7 1)]) (by rw [cz142]) ?_
          refine va_aldq hx hb hK hP 93 4 rfl rfl (by unfold vp_in; decide) dX11_deep_24 ?_
          refine W.eq (g2 := F0 m 25 ls [.ref (sY 7 5)]) rfl ?_
          refine va_get (D := (dC, dI)) (ci := 2) (v := .int ((nY 7) 1)) (C := RX2) (T := TX2) (N := 3) hx hb hts (fun w h => List.mem_cons_of_mem _ (List.mem_append_right _ (List.mem_append_right _ (List.mem_append_right _ (List.mem_append_right _ (List.mem_append_right _ (List.mem_append_left _ h))))))) hown hK hP 97 rfl rfl 2 (by decide) (hts (.fieldLink RX11 198 "SagMemory$Memory" "size" "I") (wl_mem 10 rfl)) (fun _ h9 => h9) rfl dX11_deep_25 ?_
          have bz146 := (hnY 7) 1
          rw [hQ]
          exact W.iret (v := ((nY 7) 1)) hx hb hr (fun t ht hW => ⟨((nY 7) 1), rfl, trivial, ht⟩) (fun _ h => absurd h List.not_mem_nil) dX11_deep_28
        · skip
          have zz147 : p1.toInt = (2 : Int) := zi_eq.mp cz142
          refine W.eq (g2 := F0 m 24 ls [.int 2, .ref (sY 7 1)]) (by rw [cz142]) ?_
          refine va_aldq hx hb hK hP 93 4 rfl rfl (by unfold vp_in; decide) dX11_deep_24 ?_
          refine W.eq (g2 := F0 m 25 ls [.ref (sY 7 8)]) rfl ?_
          refine va_get (D := (dC, dI)) (ci := 2) (v := .int ((nY 7) 2)) (C := RX2) (T := TX2) (N := 3) hx hb hts (fun w h => List.mem_cons_of_mem _ (List.mem_append_right _ (List.mem_append_right _ (List.mem_append_right _ (List.mem_append_right _ (List.mem_append_right _ (List.mem_append_left _ h))))))) hown hK hP 100 rfl rfl 2 (by decide) (hts (.fieldLink RX11 198 "SagMemory$Memory" "size" "I") (wl_mem 10 rfl)) (fun _ h9 => h9) rfl dX11_deep_25 ?_
          have bz148 := (hnY 7) 2
          rw [hQ]
          exact W.iret (v := ((nY 7) 2)) hx hb hr (fun t ht hW => ⟨((nY 7) 2), rfl, trivial, ht⟩) (fun _ h => absurd h List.not_mem_nil) dX11_deep_28
    · skip
      exact absurd cz49 (by decide)
def wk_c_X11_load : List Cond := .code yX11_load cX11_load 4 (some .int) :: ([.methodLink RX11 190 yX11_hasBoth, .instanceMethod yX11_hasBoth, .selects RX11 yX11_hasBoth yX11_hasBoth, .initialized RX11, .fieldLink RX11 45 "SagMemory" "story" "LSagMemory$Story;", .methodLink RX11 165 yX8_behind, .instanceMethod yX8_behind, .selects RX8 yX8_behind yX8_behind, .initialized RX8, .fieldLink RX11 194 "SagMemory$State" "memories" "[LSagMemory$Memory;", .methodLink RX11 201 yX2_heaviest, .instanceMethod yX2_heaviest, .selects RX2 yX2_heaviest yX2_heaviest, .initialized RX2] ++ (wk_c_X11_hasBoth ++ (wsX110 ++ (wk_c_X8_behind ++ (wsX70 ++ (wk_c_X2_heaviest ++ []))))))
theorem wkg_c_X11_load : wk_c_X11_load.all goodWord = true := by decide +kernel
set_option maxHeartbeats 4000000 in
set_option maxRecDepth 100000 in
theorem c_X11_load (l : Launch) (dC : Nat → ClassId) (dI : Nat → Nat → Nat) (k : Nat → ClassId) (qX : Nat → Nat) (tapeX : Nat) (actsX : Nat) (nowX : Nat) (trialX : Nat) (attemptX : Nat) (orderSearchX : Nat) (routeSearchX : Nat) (setSearchX : Nat) (probeX : Nat) (slot0X : Nat) (slot1X : Nat) (slot2X : Nat) (slot3X : Nat) (image0X : Nat) (image1X : Nat) (image2X : Nat) (aX : Nat → Nat → Int32) (qV : Nat → Nat) (vV : Nat → Int32) (bV : Nat → Int32) (cV : Nat → Int32) (wV : Nat → Int32) (aV : Nat → Nat → Int32) (eV : Nat → Nat → Int32) (qY : Nat → Nat) (sY : Nat → Nat → Nat) (planY : Nat) (vY : Nat → Nat → Int32) (nY : Nat → Nat → Int32) (aY : Nat → Nat → Nat → Int32) (p1 : Int32) (p2 : Int32) (p3 : Int32) (hbV : Rg 0 3 bV) (hcV : Rg 0 7 cV) (hwV : Rg 0 5 wV) (heV : RgA 0 99 eV) (hnY : ∀ t9, Rg 0 8 (nY t9)) : Met l yX11_load wk_c_X11_load ({ frames := 2, cells := 0, slots := 0, locals := 43 }) (va_Pc [.ref (qX 0), .int p1, .int p2, .int p3] (fun U => va_P (dC, dI) vwCl (List.flatten [(wSag qX k tapeX (qV 0) actsX nowX trialX (qY 0) attemptX orderSearchX routeSearchX setSearchX probeX slot0X slot1X slot2X slot3X image0X image1X image2X aX), (wValley qV k vV bV cV wV aV eV), (wStoO qY k (qV 0) planY (sY 0 0) (sY 1 0) (sY 2 0) (sY 3 0) (sY 4 0) (sY 5 0) (sY 6 0) (sY 7 0)), (wState (sY 0) k (vY 0) (nY 0) (aY 0)), (wState (sY 1) k (vY 1) (nY 1) (aY 1)), (wState (sY 2) k (vY 2) (nY 2) (aY 2)), (wState (sY 3) k (vY 3) (nY 3) (aY 3)), (wState (sY 4) k (vY 4) (nY 4) (aY 4)), (wState (sY 5) k (vY 5) (nY 5) (aY 5)), (wState (sY 6) k (vY 6) (nY 6) (aY 6)), (wState (sY 7) k (vY 7) (nY 7) (aY 7))]) U.heap ∧ va_K (dC, dI) vwCl (tK k) U)) (vp_Si (fun r : Int32 => True)) 0 0 (fun _ => False) := by
  refine Met.ofW (cc := cX11_load) (maxL := 4) (ret := (some .int)) (by decide) rfl ?_
  intro p e s m args below meth c s₁ B hml hv
  obtain ⟨rfl, hP, hK⟩ := hv
  have hx := B.exec
  have hb := B.bytes
  have hr := B.returns
  have hts := atoms_spec (ws := wk_c_X11_load) B.pre
  have hown : s.vm.findClass RX11 = some m.cls := findClass_of_methodNamed B.named
  have hlocks := B.notSynchronized
  have hP : va_P (dC, dI) vwCl (List.flatten [(wSag qX k tapeX (qV 0) actsX nowX trialX (qY 0) attemptX orderSearchX routeSearchX setSearchX probeX slot0X slot1X slot2X slot3X image0X image1X image2X aX), (wValley qV k vV bV cV wV aV eV), (wStoO qY k (qV 0) planY (sY 0 0) (sY 1 0) (sY 2 0) (sY 3 0) (sY 4 0) (sY 5 0) (sY 6 0) (sY 7 0)), (wState (sY 0) k (vY 0) (nY 0) (aY 0)), (wState (sY 1) k (vY 1) (nY 1) (aY 1)), (wState (sY 2) k (vY 2) (nY 2) (aY 2)), (wState (sY 3) k (vY 3) (nY 3) (aY 3)), (wState (sY 4) k (vY 4) (nY 4) (aY 4)), (wState (sY 5) k (vY 5) (nY 5) (aY 5)), (wState (sY 6) k (vY 6) (nY 6) (aY 6)), (wState (sY 7) k (vY 7) (nY 7) (aY 7))]) s.heap := hP
  have hl := lv_entry ([.ref (qX 0), .int p1, .int p2, .int p3]) (n := 4) (Nat.le_of_ble_eq_true rfl)
  rw [lg_entry_eq]
  generalize (lg_sl ([.ref (qX 0), .int p1, .int p2, .int p3]) ++ List.replicate (4 - (lg_sl ([.ref (qX 0), .int p1, .int p2, .int p3])).length) Slot.unset).toArray = ls at hl ⊢
  have hl : lv_has ls 4 [(0, .ref (qX 0)), (1, .int p1), (2, .int p2), (3, .int p3)] := hl
  refine w_gen (fun Q hQ => ?_)
  refine lv_aload_n hx hb dX11_load_0 rfl (lv_at hl 0 rfl) ?_
  refine lv_iload_n hx hb dX11_load_1 rfl (lv_at hl 1 rfl) ?_
  refine lv_iload_n hx hb dX11_load_2 rfl (lv_at hl 2 rfl) ?_
  have hPc := hP.sub (ws' := (List.flatten [(wSag qX k tapeX (qV 0) actsX nowX trialX (qY 0) attemptX orderSearchX routeSearchX setSearchX probeX slot0X slot1X slot2X slot3X image0X image1X image2X aX), (wValley qV k vV bV cV wV aV eV)])) [0, 1, 2, 3, 4, 5, 6, 7, 8, 9, 10, 11, 12] rfl
  refine vp_callSi (va_Run.run (va_runV (As := [.int p1, .int p2]) (rest := []) ⟨hx, hb, hml, hown, hts⟩ (c_X11_hasBoth l dC dI k qX tapeX actsX nowX trialX (qY 0) attemptX orderSearchX routeSearchX setSearchX probeX slot0X slot1X slot2X slot3X image0X image1X image2X aX qV vV bV cV wV aV eV p1 p2 hbV hcV hwV heV) (cwV 2 hts (gk_V (wl_mem 0 rfl) (wl_mem 1 rfl) (wl_mem 2 rfl) (wl_mem 3 rfl) (fun w h => List.mem_cons_of_mem _ (List.mem_append_right _ (List.mem_append_left _ h))) wkg_c_X11_hasBoth) rfl rfl rfl (by decide +kernel) ⟨Nat.le_of_ble_eq_true rfl, Nat.le_of_ble_eq_true rfl⟩) ⟨fun a U g mk q => by obtain ⟨q0, qP, qK⟩ := q; exact ⟨q0, qP, va_K.moved (u := U) (U := U.calling g mk a) (Vm.Alike.refl U.vm) qK⟩, va_recv hK hPc (ci := 11) (q0 := 0) rfl rfl, fun U hU hW => ⟨rfl, by rw [hU]; exact hPc, va_K.moved hW.alike hK⟩⟩ rfl rfl hl.1 rfl (lv_room (Nat.le_of_ble_eq_true rfl)) dX11_load_3 ⟨Nat.le_of_ble_eq_true rfl, Nat.le_of_ble_eq_true rfl⟩)) (fun rz2 gz1 => ?_)
  clear hPc
  rcases gz1 with ⟨er, cz3⟩ | ⟨er, cz4, cz5⟩ | ⟨er, cz6, cz7, cz8⟩ | ⟨er, cz9, cz10, cz11, cz12⟩ | ⟨er, cz13, cz14, cz15, cz16⟩
  · obtain rfl := er.symm
    have bz17 := fb_rng p1
    have zz18 : p1.toInt < (0 : Int) := zi_lt.mp cz3
    refine lv_if_ne (tgt := 12) hx hb dX11_load_6 (by decide) (fun cz19 => ?_) (fun cz19 => ?_)
    · skip
      exact absurd cz19 (by decide)
    · skip
      refine lv_bipush (v := (-2)) hx hb dX11_load_9 (by decide) ?_
      rw [hQ]
      exact W.iret (v := (-2 : Int32)) hx hb hr (fun t ht hW => ⟨(-2 : Int32), rfl, trivial, ht⟩) (fun _ h => absurd h List.not_mem_nil) dX11_load_11
  · obtain rfl := er.symm
    have bz20 := fb_rng p1
    have zz21 : ¬ p1.toInt < (0 : Int) := fun h9 => cz4 (zi_lt.mpr h9)
    have bz22 := hbV 0
    have zz23 : (bV 0).toInt ≤ p1.toInt := zi_le.mp cz5
    refine lv_if_ne (tgt := 12) hx hb dX11_load_6 (by decide) (fun cz24 => ?_) (fun cz24 => ?_)
    · skip
      exact absurd cz24 (by decide)
    · skip
      refine lv_bipush (v := (-2)) hx hb dX11_load_9 (by decide) ?_
      rw [hQ]
      exact W.iret (v := (-2 : Int32)) hx hb hr (fun t ht hW => ⟨(-2 : Int32), rfl, trivial, ht⟩) (fun _ h => absurd h List.not_mem_nil) dX11_load_11
  · obtain rfl := er.symm
    have bz25 := fb_rng p1
    have zz26 : ¬ p1.toInt < (0 : Int) := fun h9 => cz6 (zi_lt.mpr h9)
    have bz27 := hbV 0
    have zz28 : ¬ (bV 0).toInt ≤ p1.toInt := fun h9 => cz7 (zi_le.mpr h9)
    have bz29 := fb_rng p2
    have zz30 : p2.toInt < (0 : Int) := zi_lt.mp cz8
    refine lv_if_ne (tgt := 12) hx hb dX11_load_6 (by decide) (fun cz31 => ?_) (fun cz31 => ?_)
    · skip
      exact absurd cz31 (by decide)
    · skip
      refine lv_bipush (v := (-2)) hx hb dX11_load_9 (by decide) ?_
      rw [hQ]
      exact W.iret (v := (-2 : Int32)) hx hb hr (fun t ht hW => ⟨(-2 : Int32), rfl, trivial, ht⟩) (fun _ h => absurd h List.not_mem_nil) dX11_load_11
  · obtain rfl := er.symm
    have bz32 := fb_rng p1
    have zz33 : ¬ p1.toInt < (0 : Int) := fun h9 => cz9 (zi_lt.mpr h9)
    have bz34 := hbV 0
    have zz35 : ¬ (bV 0).toInt ≤ p1.toInt := fun h9 => cz10 (zi_le.mpr h9)
    have bz36 := fb_rng p2
    have zz37 : ¬ p2.toInt < (0 : Int) := fun h9 => cz11 (zi_lt.mpr h9)
    have bz38 := hcV 0
    have zz39 : (cV 0).toInt ≤ p2.toInt := zi_le.mp cz12
    refine lv_if_ne (tgt := 12) hx hb dX11_load_6 (by decide) (fun cz40 => ?_) (fun cz40 => ?_)
    · skip
      exact absurd cz40 (by decide)
    · skip
      refine lv_bipush (v := (-2)) hx hb dX11_load_9 (by decide) ?_
      rw [hQ]
      exact W.iret (v := (-2 : Int32)) hx hb hr (fun t ht hW => ⟨(-2 : Int32), rfl, trivial, ht⟩) (fun _ h => absurd h List.not_mem_nil) dX11_load_11
  · obtain rfl := er.symm
    have bz41 := fb_rng p1
    have zz42 : ¬ p1.toInt < (0 : Int) := fun h9 => cz13 (zi_lt.mpr h9)
    have bz43 := hbV 0
    have zz44 : ¬ (bV 0).toInt ≤ p1.toInt := fun h9 => cz14 (zi_le.mpr h9)
    have bz45 := fb_rng p2
    have zz46 : ¬ p2.toInt < (0 : Int) := fun h9 => cz15 (zi_lt.mpr h9)
    have bz47 := hcV 0
    have zz48 : ¬ (cV 0).toInt ≤ p2.toInt := fun h9 => cz16 (zi_le.mpr h9)
    refine lv_if_ne (tgt := 12) hx hb dX11_load_6 (by decide) (fun cz49 => ?_) (fun cz49 => ?_)
    · skip
      refine lv_aload_n hx hb dX11_load_12 rfl (lv_at hl 0 rfl) ?_
      refine va_get (D := (dC, dI)) (ci := 11) (v := .ref (qY 0)) (C := RX11) (T := TX11) (N := 15) hx hb hts (fun w h => List.mem_cons_of_mem _ (List.mem_append_right _ (List.mem_append_right _ (List.mem_append_left _ h)))) hown hK hP 0 rfl rfl 5 (by decide) (hts (.fieldLink RX11 45 "SagMemory" "story" "LSagMemory$Story;") (wl_mem 4 rfl)) (fun _ h9 => h9) rfl dX11_load_13 ?_
      refine lv_iload_n hx hb dX11_load_16 rfl (lv_at hl 2 rfl) ?_
      have hPc : va_P (dC, dI) vwCl (List.flatten [(wStoO qY k (qV 0) planY (sY 0 0) (sY 1 0) (sY 2 0) (sY 3 0) (sY 4 0) (sY 5 0) (sY 6 0) (sY 7 0)), (wState (sY 0) k (vY 0) (nY 0) (aY 0)), (wState (sY 1) k (vY 1) (nY 1) (aY 1)), (wState (sY 2) k (vY 2) (nY 2) (aY 2)), (wState (sY 3) k (vY 3) (nY 3) (aY 3)), (wState (sY 4) k (vY 4) (nY 4) (aY 4)), (wState (sY 5) k (vY 5) (nY 5) (aY 5)), (wState (sY 6) k (vY 6) (nY 6) (aY 6)), (wState (sY 7) k (vY 7) (nY 7) (aY 7))]) s.heap := wc_subP0 hP [2, 3, 4, 5, 6, 7, 8, 9, 10] rfl
      refine va_csr (va_Run.run (va_runV (As := [.int p2]) (rest := []) ⟨hx, hb, hml, hown, hts⟩ (c_X8_behind l dC dI k qY sY (qV 0) planY vY nY aY p2 hnY) (cwV 1 hts (gk_V (wl_mem 5 rfl) (wl_mem 6 rfl) (wl_mem 7 rfl) (wl_mem 8 rfl) (fun w h => List.mem_cons_of_mem _ (List.mem_append_right _ (List.mem_append_right _ (List.mem_append_right _ (List.mem_append_left _ h))))) wkg_c_X8_behind) rfl rfl rfl (by decide +kernel) ⟨Nat.le_of_ble_eq_true rfl, Nat.le_of_ble_eq_true rfl⟩) ⟨fun a U g mk q => by obtain ⟨q0, qP, qK⟩ := q; exact ⟨q0, qP, va_K.moved (u := U) (U := U.calling g mk a) (Vm.Alike.refl U.vm) qK⟩, va_recv hK hPc (ci := 8) (q0 := 0) rfl rfl, fun U hU hW => ⟨rfl, by rw [hU]; exact hPc, va_K.moved hW.alike hK⟩⟩ rfl rfl hl.1 rfl (lv_room (Nat.le_of_ble_eq_true rfl)) dX11_load_17 ⟨Nat.le_of_ble_eq_true rfl, Nat.le_of_ble_eq_true rfl⟩)) (fun rz51 gz50 => ?_)
      clear hPc
      rcases gz50 with ⟨rfl, cz52⟩ | ⟨rfl, cz53, cz54⟩ | ⟨rfl, cz55, cz56, cz57⟩ | ⟨rfl, cz58, cz59, cz60⟩ | ⟨rfl, cz61, cz62, cz63⟩ | ⟨rfl, cz64, cz65, cz66⟩ | ⟨rfl, cz67, cz68, cz69⟩ | ⟨rfl, cz70, cz71, cz72⟩ | ⟨rfl, cz73, cz74, cz75⟩
      · skip
        have zz76 : p2.toInt < (0 : Int) := zi_lt.mp cz52
        omega
      · skip
        have zz77 : ¬ p2.toInt < (0 : Int) := fun h9 => cz53 (zi_lt.mpr h9)
        have zz78 : (7 : Int) ≤ p2.toInt := zi_le.mp cz54
        omega
      · skip
        have zz79 : ¬ p2.toInt < (0 : Int) := fun h9 => cz55 (zi_lt.mpr h9)
        have zz80 : ¬ (7 : Int) ≤ p2.toInt := fun h9 => cz56 (zi_le.mpr h9)
        have zz81 : p2.toInt = (0 : Int) := zi_eq.mp cz57
        refine W.eq (g2 := F0 m 20 ls [.ref (sY 1 0)]) rfl ?_
        refine va_get (D := (dC, dI)) (ci := 7) (v := .ref (sY 1 1)) (C := RX7) (T := TX7) (N := 9) hx hb hts (fun w h => List.mem_cons_of_mem _ (List.mem_append_right _ (List.mem_append_right _ (List.mem_append_right _ (List.mem_append_right _ (List.mem_append_left _ h)))))) hown hK hP 26 rfl rfl 0 (by decide) (hts (.fieldLink RX11 194 "SagMemory$State" "memories" "[LSagMemory$Memory;") (wl_mem 9 rfl)) (fun _ h9 => h9) rfl dX11_load_20 ?_
        refine lv_iload_n hx hb dX11_load_23 rfl (lv_at hl 1 rfl) ?_
        rcases (show p1 = 0 ∨ p1 = 1 ∨ p1 = 2 by simp only [zi_eq]; show p1.toInt = 0 ∨ p1.toInt = 1 ∨ p1.toInt = 2; omega) with cz82 | cz82 | cz82
        · skip
          have zz83 : p1.toInt = (0 : Int) := zi_eq.mp cz82
          refine W.eq (g2 := F0 m 24 ls [.int 0, .ref (sY 1 1)]) (by rw [cz82]) ?_
          refine va_aldq hx hb hK hP 27 4 rfl rfl (by unfold vp_in; decide) dX11_load_24 ?_
          refine W.eq (g2 := F0 m 25 ls [.ref (sY 1 2)]) rfl ?_
          refine lv_iload_n hx hb dX11_load_25 rfl (lv_at hl 3 rfl) ?_
          have hPc := hP.sub (ws' := (List.flatten [(wMem (fun i => sY 1 (i + 2)) k (nY 1) (aY 1))])) [28, 29, 30] rfl
          refine vp_callSi (va_Run.run (va_runV (As := [.int p3]) (rest := []) ⟨hx, hb, hml, hown, hts⟩ (c_X2_heaviest l dC dI k (fun i => sY 1 (i + 2)) (nY 1) (aY 1) p3 (hnY 1)) (cwV 1 hts (gk_V (wl_mem 10 rfl) (wl_mem 11 rfl) (wl_mem 12 rfl) (wl_mem 13 rfl) (fun w h => List.mem_cons_of_mem _ (List.mem_append_right _ (List.mem_append_right _ (List.mem_append_right _ (List.mem_append_right _ (List.mem_append_right _ (List.mem_append_left _ h))))))) wkg_c_X2_heaviest) rfl rfl rfl (by decide +kernel) ⟨Nat.le_of_ble_eq_true rfl, Nat.le_of_ble_eq_true rfl⟩) ⟨fun a U g mk q => by obtain ⟨q0, qP, qK⟩ := q; exact ⟨q0, qP, va_K.moved (u := U) (U := U.calling g mk a) (Vm.Alike.refl U.vm) qK⟩, va_recv hK hPc (ci := 2) (q0 := 0) rfl rfl, fun U hU hW => ⟨rfl, by rw [hU]; exact hPc, va_K.moved hW.alike hK⟩⟩ rfl rfl hl.1 rfl (lv_room (Nat.le_of_ble_eq_true rfl)) dX11_load_26 ⟨Nat.le_of_ble_eq_true rfl, Nat.le_of_ble_eq_true rfl⟩)) (fun rz85 gz84 => ?_)
          clear hPc
          rw [hQ]
          exact W.iret (v := rz85) hx hb hr (fun t ht hW => ⟨rz85, rfl, trivial, ht⟩) (fun _ h => absurd h List.not_mem_nil) dX11_load_29
        · skip
          have zz86 : p1.toInt = (1 : Int) := zi_eq.mp cz82
          refine W.eq (g2 := F0 m 24 ls [.int 1, .ref (sY 1 1)]) (by rw [cz82]) ?_
          refine va_aldq hx hb hK hP 27 4 rfl rfl (by unfold vp_in; decide) dX11_load_24 ?_
          refine W.eq (g2 := F0 m 25 ls [.ref (sY 1 5)]) rfl ?_
          refine lv_iload_n hx hb dX11_load_25 rfl (lv_at hl 3 rfl) ?_
          have hPc := hP.sub (ws' := (List.flatten [(wMem (fun i => sY 1 (i + 5)) k (fun i => (nY 1) (i + 1)) (fun i => (aY 1) (i + 2)))])) [31, 32, 33] rfl
          refine vp_callSi (va_Run.run (va_runV (As := [.int p3]) (rest := []) ⟨hx, hb, hml, hown, hts⟩ (c_X2_heaviest l dC dI k (fun i => sY 1 (i + 5)) (fun i => (nY 1) (i + 1)) (fun i => (aY 1) (i + 2)) p3 (fun i => (hnY 1) (i + 1))) (cwV 1 hts (gk_V (wl_mem 10 rfl) (wl_mem 11 rfl) (wl_mem 12 rfl) (wl_mem 13 rfl) (fun w h => List.mem_cons_of_mem _ (List.mem_append_right _ (List.mem_append_right _ (List.mem_append_right _ (List.mem_append_right _ (List.mem_append_right _ (List.mem_append_left _ h))))))) wkg_c_X2_heaviest) rfl rfl rfl (by decide +kernel) ⟨Nat.le_of_ble_eq_true rfl, Nat.le_of_ble_eq_true rfl⟩) ⟨fun a U g mk q => by obtain ⟨q0, qP, qK⟩ := q; exact ⟨q0, qP, va_K.moved (u := U) (U := U.calling g mk a) (Vm.Alike.refl U.vm) qK⟩, va_recv hK hPc (ci := 2) (q0 := 0) rfl rfl, fun U hU hW => ⟨rfl, by rw [hU]; exact hPc, va_K.moved hW.alike hK⟩⟩ rfl rfl hl.1 rfl (lv_room (Nat.le_of_ble_eq_true rfl)) dX11_load_26 ⟨Nat.le_of_ble_eq_true rfl, Nat.le_of_ble_eq_true rfl⟩)) (fun rz88 gz87 => ?_)
          clear hPc
          rw [hQ]
          exact W.iret (v := rz88) hx hb hr (fun t ht hW => ⟨rz88, rfl, trivial, ht⟩) (fun _ h => absurd h List.not_mem_nil) dX11_load_29
        · skip
          have zz89 : p1.toInt = (2 : Int) := zi_eq.mp cz82
          refine W.eq (g2 := F0 m 24 ls [.int 2, .ref (sY 1 1)]) (by rw [cz82]) ?_
          refine va_aldq hx hb hK hP 27 4 rfl rfl (by unfold vp_in; decide) dX11_load_24 ?_
          refine W.eq (g2 := F0 m 25 ls [.ref (sY 1 8)]) rfl ?_
          refine lv_iload_n hx hb dX11_load_25 rfl (lv_at hl 3 rfl) ?_
          have hPc := hP.sub (ws' := (List.flatten [(wMem (fun i => sY 1 (i + 8)) k (fun i => (nY 1) (i + 2)) (fun i => (aY 1) (i + 4)))])) [34, 35, 36] rfl
          refine vp_callSi (va_Run.run (va_runV (As := [.int p3]) (rest := []) ⟨hx, hb, hml, hown, hts⟩ (c_X2_heaviest l dC dI k (fun i => sY 1 (i + 8)) (fun i => (nY 1) (i + 2)) (fun i => (aY 1) (i + 4)) p3 (fun i => (hnY 1) (i + 2))) (cwV 1 hts (gk_V (wl_mem 10 rfl) (wl_mem 11 rfl) (wl_mem 12 rfl) (wl_mem 13 rfl) (fun w h => List.mem_cons_of_mem _ (List.mem_append_right _ (List.mem_append_right _ (List.mem_append_right _ (List.mem_append_right _ (List.mem_append_right _ (List.mem_append_left _ h))))))) wkg_c_X2_heaviest) rfl rfl rfl (by decide +kernel) ⟨Nat.le_of_ble_eq_true rfl, Nat.le_of_ble_eq_true rfl⟩) ⟨fun a U g mk q => by obtain ⟨q0, qP, qK⟩ := q; exact ⟨q0, qP, va_K.moved (u := U) (U := U.calling g mk a) (Vm.Alike.refl U.vm) qK⟩, va_recv hK hPc (ci := 2) (q0 := 0) rfl rfl, fun U hU hW => ⟨rfl, by rw [hU]; exact hPc, va_K.moved hW.alike hK⟩⟩ rfl rfl hl.1 rfl (lv_room (Nat.le_of_ble_eq_true rfl)) dX11_load_26 ⟨Nat.le_of_ble_eq_true rfl, Nat.le_of_ble_eq_true rfl⟩)) (fun rz91 gz90 => ?_)
          clear hPc
          rw [hQ]
          exact W.iret (v := rz91) hx hb hr (fun t ht hW => ⟨rz91, rfl, trivial, ht⟩) (fun _ h => absurd h List.not_mem_nil) dX11_load_29
      · skip
        have zz92 : ¬ p2.toInt < (0 : Int) := fun h9 => cz58 (zi_lt.mpr h9)
        have zz93 : ¬ (7 : Int) ≤ p2.toInt := fun h9 => cz59 (zi_le.mpr h9)
        have zz94 : p2.toInt = (1 : Int) := zi_eq.mp cz60
        refine W.eq (g2 := F0 m 20 ls [.ref (sY 2 0)]) rfl ?_
        refine va_get (D := (dC, dI)) (ci := 7) (v := .ref (sY 2 1)) (C := RX7) (T := TX7) (N := 9) hx hb hts (fun w h => List.mem_cons_of_mem _ (List.mem_append_right _ (List.mem_append_right _ (List.mem_append_right _ (List.mem_append_right _ (List.mem_append_left _ h)))))) hown hK hP 37 rfl rfl 0 (by decide) (hts (.fieldLink RX11 194 "SagMemory$State" "memories" "[LSagMemory$Memory;") (wl_mem 9 rfl)) (fun _ h9 => h9) rfl dX11_load_20 ?_
        refine lv_iload_n hx hb dX11_load_23 rfl (lv_at hl 1 rfl) ?_
        rcases (show p1 = 0 ∨ p1 = 1 ∨ p1 = 2 by simp only [zi_eq]; show p1.toInt = 0 ∨ p1.toInt = 1 ∨ p1.toInt = 2; omega) with cz95 | cz95 | cz95
        · skip
          have zz96 : p1.toInt = (0 : Int) := zi_eq.mp cz95
          refine W.eq (g2 := F0 m 24 ls [.int 0, .ref (sY 2 1)]) (by rw [cz95]) ?_
          refine va_aldq hx hb hK hP 38 4 rfl rfl (by unfold vp_in; decide) dX11_load_24 ?_
          refine W.eq (g2 := F0 m 25 ls [.ref (sY 2 2)]) rfl ?_
          refine lv_iload_n hx hb dX11_load_25 rfl (lv_at hl 3 rfl) ?_
          have hPc := hP.sub (ws' := (List.flatten [(wMem (fun i => sY 2 (i + 2)) k (nY 2) (aY 2))])) [39, 40, 41] rfl
          refine vp_callSi (va_Run.run (va_runV (As := [.int p3]) (rest := []) ⟨hx, hb, hml, hown, hts⟩ (c_X2_heaviest l dC dI k (fun i => sY 2 (i + 2)) (nY 2) (aY 2) p3 (hnY 2)) (cwV 1 hts (gk_V (wl_mem 10 rfl) (wl_mem 11 rfl) (wl_mem 12 rfl) (wl_mem 13 rfl) (fun w h => List.mem_cons_of_mem _ (List.mem_append_right _ (List.mem_append_right _ (List.mem_append_right _ (List.mem_append_right _ (List.mem_append_right _ (List.mem_append_left _ h))))))) wkg_c_X2_heaviest) rfl rfl rfl (by decide +kernel) ⟨Nat.le_of_ble_eq_true rfl, Nat.le_of_ble_eq_true rfl⟩) ⟨fun a U g mk q => by obtain ⟨q0, qP, qK⟩ := q; exact ⟨q0, qP, va_K.moved (u := U) (U := U.calling g mk a) (Vm.Alike.refl U.vm) qK⟩, va_recv hK hPc (ci := 2) (q0 := 0) rfl rfl, fun U hU hW => ⟨rfl, by rw [hU]; exact hPc, va_K.moved hW.alike hK⟩⟩ rfl rfl hl.1 rfl (lv_room (Nat.le_of_ble_eq_true rfl)) dX11_load_26 ⟨Nat.le_of_ble_eq_true rfl, Nat.le_of_ble_eq_true rfl⟩)) (fun rz98 gz97 => ?_)
          clear hPc
          rw [hQ]
          exact W.iret (v := rz98) hx hb hr (fun t ht hW => ⟨rz98, rfl, trivial, ht⟩) (fun _ h => absurd h List.not_mem_nil) dX11_load_29
        · skip
          have zz99 : p1.toInt = (1 : Int) := zi_eq.mp cz95
          refine W.eq (g2 := F0 m 24 ls [.int 1, .ref (sY 2 1)]) (by rw [cz95]) ?_
          refine va_aldq hx hb hK hP 38 4 rfl rfl (by unfold vp_in; decide) dX11_load_24 ?_
          refine W.eq (g2 := F0 m 25 ls [.ref (sY 2 5)]) rfl ?_
          refine lv_iload_n hx hb dX11_load_25 rfl (lv_at hl 3 rfl) ?_
          have hPc := hP.sub (ws' := (List.flatten [(wMem (fun i => sY 2 (i + 5)) k (fun i => (nY 2) (i + 1)) (fun i => (aY 2) (i + 2)))])) [42, 43, 44] rfl
          refine vp_callSi (va_Run.run (va_runV (As := [.int p3]) (rest := []) ⟨hx, hb, hml, hown, hts⟩ (c_X2_heaviest l dC dI k (fun i => sY 2 (i + 5)) (fun i => (nY 2) (i + 1)) (fun i => (aY 2) (i + 2)) p3 (fun i => (hnY 2) (i + 1))) (cwV 1 hts (gk_V (wl_mem 10 rfl) (wl_mem 11 rfl) (wl_mem 12 rfl) (wl_mem 13 rfl) (fun w h => List.mem_cons_of_mem _ (List.mem_append_right _ (List.mem_append_right _ (List.mem_append_right _ (List.mem_append_right _ (List.mem_append_right _ (List.mem_append_left _ h))))))) wkg_c_X2_heaviest) rfl rfl rfl (by decide +kernel) ⟨Nat.le_of_ble_eq_true rfl, Nat.le_of_ble_eq_true rfl⟩) ⟨fun a U g mk q => by obtain ⟨q0, qP, qK⟩ := q; exact ⟨q0, qP, va_K.moved (u := U) (U := U.calling g mk a) (Vm.Alike.refl U.vm) qK⟩, va_recv hK hPc (ci := 2) (q0 := 0) rfl rfl, fun U hU hW => ⟨rfl, by rw [hU]; exact hPc, va_K.moved hW.alike hK⟩⟩ rfl rfl hl.1 rfl (lv_room (Nat.le_of_ble_eq_true rfl)) dX11_load_26 ⟨Nat.le_of_ble_eq_true rfl, Nat.le_of_ble_eq_true rfl⟩)) (fun rz101 gz100 => ?_)
          clear hPc
          rw [hQ]
          exact W.iret (v := rz101) hx hb hr (fun t ht hW => ⟨rz101, rfl, trivial, ht⟩) (fun _ h => absurd h List.not_mem_nil) dX11_load_29
        · skip
          have zz102 : p1.toInt = (2 : Int) := zi_eq.mp cz95
          refine W.eq (g2 := F0 m 24 ls [.int 2, .ref (sY 2 1)]) (by rw [cz95]) ?_
          refine va_aldq hx hb hK hP 38 4 rfl rfl (by unfold vp_in; decide) dX11_load_24 ?_
          refine W.eq (g2 := F0 m 25 ls [.ref (sY 2 8)]) rfl ?_
          refine lv_iload_n hx hb dX11_load_25 rfl (lv_at hl 3 rfl) ?_
          have hPc := hP.sub (ws' := (List.flatten [(wMem (fun i => sY 2 (i + 8)) k (fun i => (nY 2) (i + 2)) (fun i => (aY 2) (i + 4)))])) [45, 46, 47] rfl
          refine vp_callSi (va_Run.run (va_runV (As := [.int p3]) (rest := []) ⟨hx, hb, hml, hown, hts⟩ (c_X2_heaviest l dC dI k (fun i => sY 2 (i + 8)) (fun i => (nY 2) (i + 2)) (fun i => (aY 2) (i + 4)) p3 (fun i => (hnY 2) (i + 2))) (cwV 1 hts (gk_V (wl_mem 10 rfl) (wl_mem 11 rfl) (wl_mem 12 rfl) (wl_mem 13 rfl) (fun w h => List.mem_cons_of_mem _ (List.mem_append_right _ (List.mem_append_right _ (List.mem_append_right _ (List.mem_append_right _ (List.mem_append_right _ (List.mem_append_left _ h))))))) wkg_c_X2_heaviest) rfl rfl rfl (by decide +kernel) ⟨Nat.le_of_ble_eq_true rfl, Nat.le_of_ble_eq_true rfl⟩) ⟨fun a U g mk q => by obtain ⟨q0, qP, qK⟩ := q; exact ⟨q0, qP, va_K.moved (u := U) (U := U.calling g mk a) (Vm.Alike.refl U.vm) qK⟩, va_recv hK hPc (ci := 2) (q0 := 0) rfl rfl, fun U hU hW => ⟨rfl, by rw [hU]; exact hPc, va_K.moved hW.alike hK⟩⟩ rfl rfl hl.1 rfl (lv_room (Nat.le_of_ble_eq_true rfl)) dX11_load_26 ⟨Nat.le_of_ble_eq_true rfl, Nat.le_of_ble_eq_true rfl⟩)) (fun rz104 gz103 => ?_)
          clear hPc
          rw [hQ]
          exact W.iret (v := rz104) hx hb hr (fun t ht hW => ⟨rz104, rfl, trivial, ht⟩) (fun _ h => absurd h List.not_mem_nil) dX11_load_29
      · skip
        have zz105 : ¬ p2.toInt < (0 : Int) := fun h9 => cz61 (zi_lt.mpr h9)
        have zz106 : ¬ (7 : Int) ≤ p2.toInt := fun h9 => cz62 (zi_le.mpr h9)
        have zz107 : p2.toInt = (2 : Int) := zi_eq.mp cz63
        refine W.eq (g2 := F0 m 20 ls [.ref (sY 3 0)]) rfl ?_
        refine va_get (D := (dC, dI)) (ci := 7) (v := .ref (sY 3 1)) (C := RX7) (T := TX7) (N := 9) hx hb hts (fun w h => List.mem_cons_of_mem _ (List.mem_append_right _ (List.mem_append_right _ (List.mem_append_right _ (List.mem_append_right _ (List.mem_append_left _ h)))))) hown hK hP 48 rfl rfl 0 (by decide) (hts (.fieldLink RX11 194 "SagMemory$State" "memories" "[LSagMemory$Memory;") (wl_mem 9 rfl)) (fun _ h9 => h9) rfl dX11_load_20 ?_
        refine lv_iload_n hx hb dX11_load_23 rfl (lv_at hl 1 rfl) ?_
        rcases (show p1 = 0 ∨ p1 = 1 ∨ p1 = 2 by simp only [zi_eq]; show p1.toInt = 0 ∨ p1.toInt = 1 ∨ p1.toInt = 2; omega) with cz108 | cz108 | cz108
        · skip
          have zz109 : p1.toInt = (0 : Int) := zi_eq.mp cz108
          refine W.eq (g2 := F0 m 24 ls [.int 0, .ref (sY 3 1)]) (by rw [cz108]) ?_
          refine va_aldq hx hb hK hP 49 4 rfl rfl (by unfold vp_in; decide) dX11_load_24 ?_
          refine W.eq (g2 := F0 m 25 ls [.ref (sY 3 2)]) rfl ?_
          refine lv_iload_n hx hb dX11_load_25 rfl (lv_at hl 3 rfl) ?_
          have hPc := hP.sub (ws' := (List.flatten [(wMem (fun i => sY 3 (i + 2)) k (nY 3) (aY 3))])) [50, 51, 52] rfl
          refine vp_callSi (va_Run.run (va_runV (As := [.int p3]) (rest := []) ⟨hx, hb, hml, hown, hts⟩ (c_X2_heaviest l dC dI k (fun i => sY 3 (i + 2)) (nY 3) (aY 3) p3 (hnY 3)) (cwV 1 hts (gk_V (wl_mem 10 rfl) (wl_mem 11 rfl) (wl_mem 12 rfl) (wl_mem 13 rfl) (fun w h => List.mem_cons_of_mem _ (List.mem_append_right _ (List.mem_append_right _ (List.mem_append_right _ (List.mem_append_right _ (List.mem_append_right _ (List.mem_append_left _ h))))))) wkg_c_X2_heaviest) rfl rfl rfl (by decide +kernel) ⟨Nat.le_of_ble_eq_true rfl, Nat.le_of_ble_eq_true rfl⟩) ⟨fun a U g mk q => by obtain ⟨q0, qP, qK⟩ := q; exact ⟨q0, qP, va_K.moved (u := U) (U := U.calling g mk a) (Vm.Alike.refl U.vm) qK⟩, va_recv hK hPc (ci := 2) (q0 := 0) rfl rfl, fun U hU hW => ⟨rfl, by rw [hU]; exact hPc, va_K.moved hW.alike hK⟩⟩ rfl rfl hl.1 rfl (lv_room (Nat.le_of_ble_eq_true rfl)) dX11_load_26 ⟨Nat.le_of_ble_eq_true rfl, Nat.le_of_ble_eq_true rfl⟩)) (fun rz111 gz110 => ?_)
          clear hPc
          rw [hQ]
          exact W.iret (v := rz111) hx hb hr (fun t ht hW => ⟨rz111, rfl, trivial, ht⟩) (fun _ h => absurd h List.not_mem_nil) dX11_load_29
        · skip
          have zz112 : p1.toInt = (1 : Int) := zi_eq.mp cz108
          refine W.eq (g2 := F0 m 24 ls [.int 1, .ref (sY 3 1)]) (by rw [cz108]) ?_
          refine va_aldq hx hb hK hP 49 4 rfl rfl (by unfold vp_in; decide) dX11_load_24 ?_
          refine W.eq (g2 := F0 m 25 ls [.ref (sY 3 5)]) rfl ?_
          refine lv_iload_n hx hb dX11_load_25 rfl (lv_at hl 3 rfl) ?_
          have hPc := hP.sub (ws' := (List.flatten [(wMem (fun i => sY 3 (i + 5)) k (fun i => (nY 3) (i + 1)) (fun i => (aY 3) (i + 2)))])) [53, 54, 55] rfl
          refine vp_callSi (va_Run.run (va_runV (As := [.int p3]) (rest := []) ⟨hx, hb, hml, hown, hts⟩ (c_X2_heaviest l dC dI k (fun i => sY 3 (i + 5)) (fun i => (nY 3) (i + 1)) (fun i => (aY 3) (i + 2)) p3 (fun i => (hnY 3) (i + 1))) (cwV 1 hts (gk_V (wl_mem 10 rfl) (wl_mem 11 rfl) (wl_mem 12 rfl) (wl_mem 13 rfl) (fun w h => List.mem_cons_of_mem _ (List.mem_append_right _ (List.mem_append_right _ (List.mem_append_right _ (List.mem_append_right _ (List.mem_append_right _ (List.mem_append_left _ h))))))) wkg_c_X2_heaviest) rfl rfl rfl (by decide +kernel) ⟨Nat.le_of_ble_eq_true rfl, Nat.le_of_ble_eq_true rfl⟩) ⟨fun a U g mk q => by obtain ⟨q0, qP, qK⟩ := q; exact ⟨q0, qP, va_K.moved (u := U) (U := U.calling g mk a) (Vm.Alike.refl U.vm) qK⟩, va_recv hK hPc (ci := 2) (q0 := 0) rfl rfl, fun U hU hW => ⟨rfl, by rw [hU]; exact hPc, va_K.moved hW.alike hK⟩⟩ rfl rfl hl.1 rfl (lv_room (Nat.le_of_ble_eq_true rfl)) dX11_load_26 ⟨Nat.le_of_ble_eq_true rfl, Nat.le_of_ble_eq_true rfl⟩)) (fun rz114 gz113 => ?_)
          clear hPc
          rw [hQ]
          exact W.iret (v := rz114) hx hb hr (fun t ht hW => ⟨rz114, rfl, trivial, ht⟩) (fun _ h => absurd h List.not_mem_nil) dX11_load_29
        · skip
          have zz115 : p1.toInt = (2 : Int) := zi_eq.mp cz108
          refine W.eq (g2 := F0 m 24 ls [.int 2, .ref (sY 3 1)]) (by rw [cz108]) ?_
          refine va_aldq hx hb hK hP 49 4 rfl rfl (by unfold vp_in; decide) dX11_load_24 ?_
          refine W.eq (g2 := F0 m 25 ls [.ref (sY 3 8)]) rfl ?_
          refine lv_iload_n hx hb dX11_load_25 rfl (lv_at hl 3 rfl) ?_
          have hPc := hP.sub (ws' := (List.flatten [(wMem (fun i => sY 3 (i + 8)) k (fun i => (nY 3) (i + 2)) (fun i => (aY 3) (i + 4)))])) [56, 57, 58] rfl
          refine vp_callSi (va_Run.run (va_runV (As := [.int p3]) (rest := []) ⟨hx, hb, hml, hown, hts⟩ (c_X2_heaviest l dC dI k (fun i => sY 3 (i + 8)) (fun i => (nY 3) (i + 2)) (fun i => (aY 3) (i + 4)) p3 (fun i => (hnY 3) (i + 2))) (cwV 1 hts (gk_V (wl_mem 10 rfl) (wl_mem 11 rfl) (wl_mem 12 rfl) (wl_mem 13 rfl) (fun w h => List.mem_cons_of_mem _ (List.mem_append_right _ (List.mem_append_right _ (List.mem_append_right _ (List.mem_append_right _ (List.mem_append_right _ (List.mem_append_left _ h))))))) wkg_c_X2_heaviest) rfl rfl rfl (by decide +kernel) ⟨Nat.le_of_ble_eq_true rfl, Nat.le_of_ble_eq_true rfl⟩) ⟨fun a U g mk q => by obtain ⟨q0, qP, qK⟩ := q; exact ⟨q0, qP, va_K.moved (u := U) (U := U.calling g mk a) (Vm.Alike.refl U.vm) qK⟩, va_recv hK hPc (ci := 2) (q0 := 0) rfl rfl, fun U hU hW => ⟨rfl, by rw [hU]; exact hPc, va_K.moved hW.alike hK⟩⟩ rfl rfl hl.1 rfl (lv_room (Nat.le_of_ble_eq_true rfl)) dX11_load_26 ⟨Nat.le_of_ble_eq_true rfl, Nat.le_of_ble_eq_true rfl⟩)) (fun rz117 gz116 => ?_)
          clear hPc
          rw [hQ]
          exact W.iret (v := rz117) hx hb hr (fun t ht hW => ⟨rz117, rfl, trivial, ht⟩) (fun _ h => absurd h List.not_mem_nil) dX11_load_29
      · skip
        have zz118 : ¬ p2.toInt < (0 : Int) := fun h9 => cz64 (zi_lt.mpr h9)
        have zz119 : ¬ (7 : Int) ≤ p2.toInt := fun h9 => cz65 (zi_le.mpr h9)
        have zz120 : p2.toInt = (3 : Int) := zi_eq.mp cz66
        refine W.eq (g2 := F0 m 20 ls [.ref (sY 4 0)]) rfl ?_
        refine va_get (D := (dC, dI)) (ci := 7) (v := .ref (sY 4 1)) (C := RX7) (T := TX7) (N := 9) hx hb hts (fun w h => List.mem_cons_of_mem _ (List.mem_append_right _ (List.mem_append_right _ (List.mem_append_right _ (List.mem_append_right _ (List.mem_append_left _ h)))))) hown hK hP 59 rfl rfl 0 (by decide) (hts (.fieldLink RX11 194 "SagMemory$State" "memories" "[LSagMemory$Memory;") (wl_mem 9 rfl)) (fun _ h9 => h9) rfl dX11_load_20 ?_
        refine lv_iload_n hx hb dX11_load_23 rfl (lv_at hl 1 rfl) ?_
        rcases (show p1 = 0 ∨ p1 = 1 ∨ p1 = 2 by simp only [zi_eq]; show p1.toInt = 0 ∨ p1.toInt = 1 ∨ p1.toInt = 2; omega) with cz121 | cz121 | cz121
        · skip
          have zz122 : p1.toInt = (0 : Int) := zi_eq.mp cz121
          refine W.eq (g2 := F0 m 24 ls [.int 0, .ref (sY 4 1)]) (by rw [cz121]) ?_
          refine va_aldq hx hb hK hP 60 4 rfl rfl (by unfold vp_in; decide) dX11_load_24 ?_
          refine W.eq (g2 := F0 m 25 ls [.ref (sY 4 2)]) rfl ?_
          refine lv_iload_n hx hb dX11_load_25 rfl (lv_at hl 3 rfl) ?_
          have hPc := hP.sub (ws' := (List.flatten [(wMem (fun i => sY 4 (i + 2)) k (nY 4) (aY 4))])) [61, 62, 63] rfl
          refine vp_callSi (va_Run.run (va_runV (As := [.int p3]) (rest := []) ⟨hx, hb, hml, hown, hts⟩ (c_X2_heaviest l dC dI k (fun i => sY 4 (i + 2)) (nY 4) (aY 4) p3 (hnY 4)) (cwV 1 hts (gk_V (wl_mem 10 rfl) (wl_mem 11 rfl) (wl_mem 12 rfl) (wl_mem 13 rfl) (fun w h => List.mem_cons_of_mem _ (List.mem_append_right _ (List.mem_append_right _ (List.mem_append_right _ (List.mem_append_right _ (List.mem_append_right _ (List.mem_append_left _ h))))))) wkg_c_X2_heaviest) rfl rfl rfl (by decide +kernel) ⟨Nat.le_of_ble_eq_true rfl, Nat.le_of_ble_eq_true rfl⟩) ⟨fun a U g mk q => by obtain ⟨q0, qP, qK⟩ := q; exact ⟨q0, qP, va_K.moved (u := U) (U := U.calling g mk a) (Vm.Alike.refl U.vm) qK⟩, va_recv hK hPc (ci := 2) (q0 := 0) rfl rfl, fun U hU hW => ⟨rfl, by rw [hU]; exact hPc, va_K.moved hW.alike hK⟩⟩ rfl rfl hl.1 rfl (lv_room (Nat.le_of_ble_eq_true rfl)) dX11_load_26 ⟨Nat.le_of_ble_eq_true rfl, Nat.le_of_ble_eq_true rfl⟩)) (fun rz124 gz123 => ?_)
          clear hPc
          rw [hQ]
          exact W.iret (v := rz124) hx hb hr (fun t ht hW => ⟨rz124, rfl, trivial, ht⟩) (fun _ h => absurd h List.not_mem_nil) dX11_load_29
        · skip
          have zz125 : p1.toInt = (1 : Int) := zi_eq.mp cz121
          refine W.eq (g2 := F0 m 24 ls [.int 1, .ref (sY 4 1)]) (by rw [cz121]) ?_
          refine va_aldq hx hb hK hP 60 4 rfl rfl (by unfold vp_in; decide) dX11_load_24 ?_
          refine W.eq (g2 := F0 m 25 ls [.ref (sY 4 5)]) rfl ?_
          refine lv_iload_n hx hb dX11_load_25 rfl (lv_at hl 3 rfl) ?_
          have hPc := hP.sub (ws' := (List.flatten [(wMem (fun i => sY 4 (i + 5)) k (fun i => (nY 4) (i + 1)) (fun i => (aY 4) (i + 2)))])) [64, 65, 66] rfl
          refine vp_callSi (va_Run.run (va_runV (As := [.int p3]) (rest := []) ⟨hx, hb, hml, hown, hts⟩ (c_X2_heaviest l dC dI k (fun i => sY 4 (i + 5)) (fun i => (nY 4) (i + 1)) (fun i => (aY 4) (i + 2)) p3 (fun i => (hnY 4) (i + 1))) (cwV 1 hts (gk_V (wl_mem 10 rfl) (wl_mem 11 rfl) (wl_mem 12 rfl) (wl_mem 13 rfl) (fun w h => List.mem_cons_of_mem _ (List.mem_append_right _ (List.mem_append_right _ (List.mem_append_right _ (List.mem_append_right _ (List.mem_append_right _ (List.mem_append_left _ h))))))) wkg_c_X2_heaviest) rfl rfl rfl (by decide +kernel) ⟨Nat.le_of_ble_eq_true rfl, Nat.le_of_ble_eq_true rfl⟩) ⟨fun a U g mk q => by obtain ⟨q0, qP, qK⟩ := q; exact ⟨q0, qP, va_K.moved (u := U) (U := U.calling g mk a) (Vm.Alike.refl U.vm) qK⟩, va_recv hK hPc (ci := 2) (q0 := 0) rfl rfl, fun U hU hW => ⟨rfl, by rw [hU]; exact hPc, va_K.moved hW.alike hK⟩⟩ rfl rfl hl.1 rfl (lv_room (Nat.le_of_ble_eq_true rfl)) dX11_load_26 ⟨Nat.le_of_ble_eq_true rfl, Nat.le_of_ble_eq_true rfl⟩)) (fun rz127 gz126 => ?_)
          clear hPc
          rw [hQ]
          exact W.iret (v := rz127) hx hb hr (fun t ht hW => ⟨rz127, rfl, trivial, ht⟩) (fun _ h => absurd h List.not_mem_nil) dX11_load_29
        · skip
          have zz128 : p1.toInt = (2 : Int) := zi_eq.mp cz121
          refine W.eq (g2 := F0 m 24 ls [.int 2, .ref (sY 4 1)]) (by rw [cz121]) ?_
          refine va_aldq hx hb hK hP 60 4 rfl rfl (by unfold vp_in; decide) dX11_load_24 ?_
          refine W.eq (g2 := F0 m 25 ls [.ref (sY 4 8)]) rfl ?_
          refine lv_iload_n hx hb dX11_load_25 rfl (lv_at hl 3 rfl) ?_
          have hPc := hP.sub (ws' := (List.flatten [(wMem (fun i => sY 4 (i + 8)) k (fun i => (nY 4) (i + 2)) (fun i => (aY 4) (i + 4)))])) [67, 68, 69] rfl
          refine vp_callSi (va_Run.run (va_runV (As := [.int p3]) (rest := []) ⟨hx, hb, hml, hown, hts⟩ (c_X2_heaviest l dC dI k (fun i => sY 4 (i + 8)) (fun i => (nY 4) (i + 2)) (fun i => (aY 4) (i + 4)) p3 (fun i => (hnY 4) (i + 2))) (cwV 1 hts (gk_V (wl_mem 10 rfl) (wl_mem 11 rfl) (wl_mem 12 rfl) (wl_mem 13 rfl) (fun w h => List.mem_cons_of_mem _ (List.mem_append_right _ (List.mem_append_right _ (List.mem_append_right _ (List.mem_append_right _ (List.mem_append_right _ (List.mem_append_left _ h))))))) wkg_c_X2_heaviest) rfl rfl rfl (by decide +kernel) ⟨Nat.le_of_ble_eq_true rfl, Nat.le_of_ble_eq_true rfl⟩) ⟨fun a U g mk q => by obtain ⟨q0, qP, qK⟩ := q; exact ⟨q0, qP, va_K.moved (u := U) (U := U.calling g mk a) (Vm.Alike.refl U.vm) qK⟩, va_recv hK hPc (ci := 2) (q0 := 0) rfl rfl, fun U hU hW => ⟨rfl, by rw [hU]; exact hPc, va_K.moved hW.alike hK⟩⟩ rfl rfl hl.1 rfl (lv_room (Nat.le_of_ble_eq_true rfl)) dX11_load_26 ⟨Nat.le_of_ble_eq_true rfl, Nat.le_of_ble_eq_true rfl⟩)) (fun rz130 gz129 => ?_)
          clear hPc
          rw [hQ]
          exact W.iret (v := rz130) hx hb hr (fun t ht hW => ⟨rz130, rfl, trivial, ht⟩) (fun _ h => absurd h List.not_mem_nil) dX11_load_29
      · skip
        have zz131 : ¬ p2.toInt < (0 : Int) := fun h9 => cz67 (zi_lt.mpr h9)
        have zz132 : ¬ (7 : Int) ≤ p2.toInt := fun h9 => cz68 (zi_le.mpr h9)
        have zz133 : p2.toInt = (4 : Int) := zi_eq.mp cz69
        refine W.eq (g2 := F0 m 20 ls [.ref (sY 5 0)]) rfl ?_
        refine va_get (D := (dC, dI)) (ci := 7) (v := .ref (sY 5 1)) (C := RX7) (T := TX7) (N := 9) hx hb hts (fun w h => List.mem_cons_of_mem _ (List.mem_append_right _ (List.mem_append_right _ (List.mem_append_right _ (List.mem_append_right _ (List.mem_append_left _ h)))))) hown hK hP 70 rfl rfl 0 (by decide) (hts (.fieldLink RX11 194 "SagMemory$State" "memories" "[LSagMemory$Memory;") (wl_mem 9 rfl)) (fun _ h9 => h9) rfl dX11_load_20 ?_
        refine lv_iload_n hx hb dX11_load_23 rfl (lv_at hl 1 rfl) ?_
        rcases (show p1 = 0 ∨ p1 = 1 ∨ p1 = 2 by simp only [zi_eq]; show p1.toInt = 0 ∨ p1.toInt = 1 ∨ p1.toInt = 2; omega) with cz134 | cz134 | cz134
        · skip
          have zz135 : p1.toInt = (0 : Int) := zi_eq.mp cz134
          refine W.eq (g2 := F0 m 24 ls [.int 0, .ref (sY 5 1)]) (by rw [cz134]) ?_
          refine va_aldq hx hb hK hP 71 4 rfl rfl (by unfold vp_in; decide) dX11_load_24 ?_
          refine W.eq (g2 := F0 m 25 ls [.ref (sY 5 2)]) rfl ?_
          refine lv_iload_n hx hb dX11_load_25 rfl (lv_at hl 3 rfl) ?_
          have hPc := hP.sub (ws' := (List.flatten [(wMem (fun i => sY 5 (i + 2)) k (nY 5) (aY 5))])) [72, 73, 74] rfl
          refine vp_callSi (va_Run.run (va_runV (As := [.int p3]) (rest := []) ⟨hx, hb, hml, hown, hts⟩ (c_X2_heaviest l dC dI k (fun i => sY 5 (i + 2)) (nY 5) (aY 5) p3 (hnY 5)) (cwV 1 hts (gk_V (wl_mem 10 rfl) (wl_mem 11 rfl) (wl_mem 12 rfl) (wl_mem 13 rfl) (fun w h => List.mem_cons_of_mem _ (List.mem_append_right _ (List.mem_append_right _ (List.mem_append_right _ (List.mem_append_right _ (List.mem_append_right _ (List.mem_append_left _ h))))))) wkg_c_X2_heaviest) rfl rfl rfl (by decide +kernel) ⟨Nat.le_of_ble_eq_true rfl, Nat.le_of_ble_eq_true rfl⟩) ⟨fun a U g mk q => by obtain ⟨q0, qP, qK⟩ := q; exact ⟨q0, qP, va_K.moved (u := U) (U := U.calling g mk a) (Vm.Alike.refl U.vm) qK⟩, va_recv hK hPc (ci := 2) (q0 := 0) rfl rfl, fun U hU hW => ⟨rfl, by rw [hU]; exact hPc, va_K.moved hW.alike hK⟩⟩ rfl rfl hl.1 rfl (lv_room (Nat.le_of_ble_eq_true rfl)) dX11_load_26 ⟨Nat.le_of_ble_eq_true rfl, Nat.le_of_ble_eq_true rfl⟩)) (fun rz137 gz136 => ?_)
          clear hPc
          rw [hQ]
          exact W.iret (v := rz137) hx hb hr (fun t ht hW => ⟨rz137, rfl, trivial, ht⟩) (fun _ h => absurd h List.not_mem_nil) dX11_load_29
        · skip
          have zz138 : p1.toInt = (1 : Int) := zi_eq.mp cz134
          refine W.eq (g2 := F0 m 24 ls [.int 1, .ref (sY 5 1)]) (by rw [cz134]) ?_
          refine va_aldq hx hb hK hP 71 4 rfl rfl (by unfold vp_in; decide) dX11_load_24 ?_
          refine W.eq (g2 := F0 m 25 ls [.ref (sY 5 5)]) rfl ?_
          refine lv_iload_n hx hb dX11_load_25 rfl (lv_at hl 3 rfl) ?_
          have hPc := hP.sub (ws' := (List.flatten [(wMem (fun i => sY 5 (i + 5)) k (fun i => (nY 5) (i + 1)) (fun i => (aY 5) (i + 2)))])) [75, 76, 77] rfl
          refine vp_callSi (va_Run.run (va_runV (As := [.int p3]) (rest := []) ⟨hx, hb, hml, hown, hts⟩ (c_X2_heaviest l dC dI k (fun i => sY 5 (i + 5)) (fun i => (nY 5) (i + 1)) (fun i => (aY 5) (i + 2)) p3 (fun i => (hnY 5) (i + 1))) (cwV 1 hts (gk_V (wl_mem 10 rfl) (wl_mem 11 rfl) (wl_mem 12 rfl) (wl_mem 13 rfl) (fun w h => List.mem_cons_of_mem _ (List.mem_append_right _ (List.mem_append_right _ (List.mem_append_right _ (List.mem_append_right _ (List.mem_append_right _ (List.mem_append_left _ h))))))) wkg_c_X2_heaviest) rfl rfl rfl (by decide +kernel) ⟨Nat.le_of_ble_eq_true rfl, Nat.le_of_ble_eq_true rfl⟩) ⟨fun a U g mk q => by obtain ⟨q0, qP, qK⟩ := q; exact ⟨q0, qP, va_K.moved (u := U) (U := U.calling g mk a) (Vm.Alike.refl U.vm) qK⟩, va_recv hK hPc (ci := 2) (q0 := 0) rfl rfl, fun U hU hW => ⟨rfl, by rw [hU]; exact hPc, va_K.moved hW.alike hK⟩⟩ rfl rfl hl.1 rfl (lv_room (Nat.le_of_ble_eq_true rfl)) dX11_load_26 ⟨Nat.le_of_ble_eq_true rfl, Nat.le_of_ble_eq_true rfl⟩)) (fun rz140 gz139 => ?_)
          clear hPc
          rw [hQ]
          exact W.iret (v := rz140) hx hb hr (fun t ht hW => ⟨rz140, rfl, trivial, ht⟩) (fun _ h => absurd h List.not_mem_nil) dX11_load_29
        · skip
          have zz141 : p1.toInt = (2 : Int) := zi_eq.mp cz134
          refine W.eq (g2 := F0 m 24 ls [.int 2, .ref (sY 5 1)]) (by rw [cz134]) ?_
          refine va_aldq hx hb hK hP 71 4 rfl rfl (by unfold vp_in; decide) dX11_load_24 ?_
          refine W.eq (g2 := F0 m 25 ls [.ref (sY 5 8)]) rfl ?_
          refine lv_iload_n hx hb dX11_load_25 rfl (lv_at hl 3 rfl) ?_
          have hPc := hP.sub (ws' := (List.flatten [(wMem (fun i => sY 5 (i + 8)) k (fun i => (nY 5) (i + 2)) (fun i => (aY 5) (i + 4)))])) [78, 79, 80] rfl
          refine vp_callSi (va_Run.run (va_runV (As := [.int p3]) (rest := []) ⟨hx, hb, hml, hown, hts⟩ (c_X2_heaviest l dC dI k (fun i => sY 5 (i + 8)) (fun i => (nY 5) (i + 2)) (fun i => (aY 5) (i + 4)) p3 (fun i => (hnY 5) (i + 2))) (cwV 1 hts (gk_V (wl_mem 10 rfl) (wl_mem 11 rfl) (wl_mem 12 rfl) (wl_mem 13 rfl) (fun w h => List.mem_cons_of_mem _ (List.mem_append_right _ (List.mem_append_right _ (List.mem_append_right _ (List.mem_append_right _ (List.mem_append_right _ (List.mem_append_left _ h))))))) wkg_c_X2_heaviest) rfl rfl rfl (by decide +kernel) ⟨Nat.le_of_ble_eq_true rfl, Nat.le_of_ble_eq_true rfl⟩) ⟨fun a U g mk q => by obtain ⟨q0, qP, qK⟩ := q; exact ⟨q0, qP, va_K.moved (u := U) (U := U.calling g mk a) (Vm.Alike.refl U.vm) qK⟩, va_recv hK hPc (ci := 2) (q0 := 0) rfl rfl, fun U hU hW => ⟨rfl, by rw [hU]; exact hPc, va_K.moved hW.alike hK⟩⟩ rfl rfl hl.1 rfl (lv_room (Nat.le_of_ble_eq_true rfl)) dX11_load_26 ⟨Nat.le_of_ble_eq_true rfl, Nat.le_of_ble_eq_true rfl⟩)) (fun rz143 gz142 => ?_)
          clear hPc
          rw [hQ]
          exact W.iret (v := rz143) hx hb hr (fun t ht hW => ⟨rz143, rfl, trivial, ht⟩) (fun _ h => absurd h List.not_mem_nil) dX11_load_29
      · skip
        have zz144 : ¬ p2.toInt < (0 : Int) := fun h9 => cz70 (zi_lt.mpr h9)
        have zz145 : ¬ (7 : Int) ≤ p2.toInt := fun h9 => cz71 (zi_le.mpr h9)
        have zz146 : p2.toInt = (5 : Int) := zi_eq.mp cz72
        refine W.eq (g2 := F0 m 20 ls [.ref (sY 6 0)]) rfl ?_
        refine va_get (D := (dC, dI)) (ci := 7) (v := .ref (sY 6 1)) (C := RX7) (T := TX7) (N := 9) hx hb hts (fun w h => List.mem_cons_of_mem _ (List.mem_append_right _ (List.mem_append_right _ (List.mem_append_right _ (List.mem_append_right _ (List.mem_append_left _ h)))))) hown hK hP 81 rfl rfl 0 (by decide) (hts (.fieldLink RX11 194 "SagMemory$State" "memories" "[LSagMemory$Memory;") (wl_mem 9 rfl)) (fun _ h9 => h9) rfl dX11_load_20 ?_
        refine lv_iload_n hx hb dX11_load_23 rfl (lv_at hl 1 rfl) ?_
        rcases (show p1 = 0 ∨ p1 = 1 ∨ p1 = 2 by simp only [zi_eq]; show p1.toInt = 0 ∨ p1.toInt = 1 ∨ p1.toInt = 2; omega) with cz147 | cz147 | cz147
        · skip
          have zz148 : p1.toInt = (0 : Int) := zi_eq.mp cz147
          refine W.eq (g2 := F0 m 24 ls [.int 0, .ref (sY 6 1)]) (by rw [cz147]) ?_
          refine va_aldq hx hb hK hP 82 4 rfl rfl (by unfold vp_in; decide) dX11_load_24 ?_
          refine W.eq (g2 := F0 m 25 ls [.ref (sY 6 2)]) rfl ?_
          refine lv_iload_n hx hb dX11_load_25 rfl (lv_at hl 3 rfl) ?_
          have hPc := hP.sub (ws' := (List.flatten [(wMem (fun i => sY 6 (i + 2)) k (nY 6) (aY 6))])) [83, 84, 85] rfl
          refine vp_callSi (va_Run.run (va_runV (As := [.int p3]) (rest := []) ⟨hx, hb, hml, hown, hts⟩ (c_X2_heaviest l dC dI k (fun i => sY 6 (i + 2)) (nY 6) (aY 6) p3 (hnY 6)) (cwV 1 hts (gk_V (wl_mem 10 rfl) (wl_mem 11 rfl) (wl_mem 12 rfl) (wl_mem 13 rfl) (fun w h => List.mem_cons_of_mem _ (List.mem_append_right _ (List.mem_append_right _ (List.mem_append_right _ (List.mem_append_right _ (List.mem_append_right _ (List.mem_append_left _ h))))))) wkg_c_X2_heaviest) rfl rfl rfl (by decide +kernel) ⟨Nat.le_of_ble_eq_true rfl, Nat.le_of_ble_eq_true rfl⟩) ⟨fun a U g mk q => by obtain ⟨q0, qP, qK⟩ := q; exact ⟨q0, qP, va_K.moved (u := U) (U := U.calling g mk a) (Vm.Alike.refl U.vm) qK⟩, va_recv hK hPc (ci := 2) (q0 := 0) rfl rfl, fun U hU hW => ⟨rfl, by rw [hU]; exact hPc, va_K.moved hW.alike hK⟩⟩ rfl rfl hl.1 rfl (lv_room (Nat.le_of_ble_eq_true rfl)) dX11_load_26 ⟨Nat.le_of_ble_eq_true rfl, Nat.le_of_ble_eq_true rfl⟩)) (fun rz150 gz149 => ?_)
          clear hPc
          rw [hQ]
          exact W.iret (v := rz150) hx hb hr (fun t ht hW => ⟨rz150, rfl, trivial, ht⟩) (fun _ h => absurd h List.not_mem_nil) dX11_load_29
        · skip
          have zz151 : p1.toInt = (1 : Int) := zi_eq.mp cz147
          refine W.eq (g2 := F0 m 24 ls [.int 1, .ref (sY 6 1)]) (by rw [cz147]) ?_
          refine va_aldq hx hb hK hP 82 4 rfl rfl (by unfold vp_in; decide) dX11_load_24 ?_
          refine W.eq (g2 := F0 m 25 ls [.ref (sY 6 5)]) rfl ?_
          refine lv_iload_n hx hb dX11_load_25 rfl (lv_at hl 3 rfl) ?_
          have hPc := hP.sub (ws' := (List.flatten [(wMem (fun i => sY 6 (i + 5)) k (fun i => (nY 6) (i + 1)) (fun i => (aY 6) (i + 2)))])) [86, 87, 88] rfl
          refine vp_callSi (va_Run.run (va_runV (As := [.int p3]) (rest := []) ⟨hx, hb, hml, hown, hts⟩ (c_X2_heaviest l dC dI k (fun i => sY 6 (i + 5)) (fun i => (nY 6) (i + 1)) (fun i => (aY 6) (i + 2)) p3 (fun i => (hnY 6) (i + 1))) (cwV 1 hts (gk_V (wl_mem 10 rfl) (wl_mem 11 rfl) (wl_mem 12 rfl) (wl_mem 13 rfl) (fun w h => List.mem_cons_of_mem _ (List.mem_append_right _ (List.mem_append_right _ (List.mem_append_right _ (List.mem_append_right _ (List.mem_append_right _ (List.mem_append_left _ h))))))) wkg_c_X2_heaviest) rfl rfl rfl (by decide +kernel) ⟨Nat.le_of_ble_eq_true rfl, Nat.le_of_ble_eq_true rfl⟩) ⟨fun a U g mk q => by obtain ⟨q0, qP, qK⟩ := q; exact ⟨q0, qP, va_K.moved (u := U) (U := U.calling g mk a) (Vm.Alike.refl U.vm) qK⟩, va_recv hK hPc (ci := 2) (q0 := 0) rfl rfl, fun U hU hW => ⟨rfl, by rw [hU]; exact hPc, va_K.moved hW.alike hK⟩⟩ rfl rfl hl.1 rfl (lv_room (Nat.le_of_ble_eq_true rfl)) dX11_load_26 ⟨Nat.le_of_ble_eq_true rfl, Nat.le_of_ble_eq_true rfl⟩)) (fun rz153 gz152 => ?_)
          clear hPc
          rw [hQ]
          exact W.iret (v := rz153) hx hb hr (fun t ht hW => ⟨rz153, rfl, trivial, ht⟩) (fun _ h => absurd h List.not_mem_nil) dX11_load_29
        · skip
          have zz154 : p1.toInt = (2 : Int) := zi_eq.mp cz147
          refine W.eq (g2 := F0 m 24 ls [.int 2, .ref (sY 6 1)]) (by rw [cz147]) ?_
          refine va_aldq hx hb hK hP 82 4 rfl rfl (by unfold vp_in; decide) dX11_load_24 ?_
          refine W.eq (g2 := F0 m 25 ls [.ref (sY 6 8)]) rfl ?_
          refine lv_iload_n hx hb dX11_load_25 rfl (lv_at hl 3 rfl) ?_
          have hPc := hP.sub (ws' := (List.flatten [(wMem (fun i => sY 6 (i + 8)) k (fun i => (nY 6) (i + 2)) (fun i => (aY 6) (i + 4)))])) [89, 90, 91] rfl
          refine vp_callSi (va_Run.run (va_runV (As := [.int p3]) (rest := []) ⟨hx, hb, hml, hown, hts⟩ (c_X2_heaviest l dC dI k (fun i => sY 6 (i + 8)) (fun i => (nY 6) (i + 2)) (fun i => (aY 6) (i + 4)) p3 (fun i => (hnY 6) (i + 2))) (cwV 1 hts (gk_V (wl_mem 10 rfl) (wl_mem 11 rfl) (wl_mem 12 rfl) (wl_mem 13 rfl) (fun w h => List.mem_cons_of_mem _ (List.mem_append_right _ (List.mem_append_right _ (List.mem_append_right _ (List.mem_append_right _ (List.mem_append_right _ (List.mem_append_left _ h))))))) wkg_c_X2_heaviest) rfl rfl rfl (by decide +kernel) ⟨Nat.le_of_ble_eq_true rfl, Nat.le_of_ble_eq_true rfl⟩) ⟨fun a U g mk q => by obtain ⟨q0, qP, qK⟩ := q; exact ⟨q0, qP, va_K.moved (u := U) (U := U.calling g mk a) (Vm.Alike.refl U.vm) qK⟩, va_recv hK hPc (ci := 2) (q0 := 0) rfl rfl, fun U hU hW => ⟨rfl, by rw [hU]; exact hPc, va_K.moved hW.alike hK⟩⟩ rfl rfl hl.1 rfl (lv_room (Nat.le_of_ble_eq_true rfl)) dX11_load_26 ⟨Nat.le_of_ble_eq_true rfl, Nat.le_of_ble_eq_true rfl⟩)) (fun rz156 gz155 => ?_)
          clear hPc
          rw [hQ]
          exact W.iret (v := rz156) hx hb hr (fun t ht hW => ⟨rz156, rfl, trivial, ht⟩) (fun _ h => absurd h List.not_mem_nil) dX11_load_29
      · skip
        have zz157 : ¬ p2.toInt < (0 : Int) := fun h9 => cz73 (zi_lt.mpr h9)
        have zz158 : ¬ (7 : Int) ≤ p2.toInt := fun h9 => cz74 (zi_le.mpr h9)
        have zz159 : p2.toInt = (6 : Int) := zi_eq.mp cz75
        refine W.eq (g2 := F0 m 20 ls [.ref (sY 7 0)]) rfl ?_
        refine va_get (D := (dC, dI)) (ci := 7) (v := .ref (sY 7 1)) (C := RX7) (T := TX7) (N := 9) hx hb hts (fun w h => List.mem_cons_of_mem _ (List.mem_append_right _ (List.mem_append_right _ (List.mem_append_right _ (List.mem_append_right _ (List.mem_append_left _ h)))))) hown hK hP 92 rfl rfl 0 (by decide) (hts (.fieldLink RX11 194 "SagMemory$State" "memories" "[LSagMemory$Memory;") (wl_mem 9 rfl)) (fun _ h9 => h9) rfl dX11_load_20 ?_
        refine lv_iload_n hx hb dX11_load_23 rfl (lv_at hl 1 rfl) ?_
        rcases (show p1 = 0 ∨ p1 = 1 ∨ p1 = 2 by simp only [zi_eq]; show p1.toInt = 0 ∨ p1.toInt = 1 ∨ p1.toInt = 2; omega) with cz160 | cz160 | cz160
        · skip
          have zz161 : p1.toInt = (0 : Int) := zi_eq.mp cz160
          refine W.eq (g2 := F0 m 24 ls [.int 0, .ref (sY 7 1)]) (by rw [cz160]) ?_
          refine va_aldq hx hb hK hP 93 4 rfl rfl (by unfold vp_in; decide) dX11_load_24 ?_
          refine W.eq (g2 := F0 m 25 ls [.ref (sY 7 2)]) rfl ?_
          refine lv_iload_n hx hb dX11_load_25 rfl (lv_at hl 3 rfl) ?_
          have hPc := hP.sub (ws' := (List.flatten [(wMem (fun i => sY 7 (i + 2)) k (nY 7) (aY 7))])) [94, 95, 96] rfl
          refine vp_callSi (va_Run.run (va_runV (As := [.int p3]) (rest := []) ⟨hx, hb, hml, hown, hts⟩ (c_X2_heaviest l dC dI k (fun i => sY 7 (i + 2)) (nY 7) (aY 7) p3 (hnY 7)) (cwV 1 hts (gk_V (wl_mem 10 rfl) (wl_mem 11 rfl) (wl_mem 12 rfl) (wl_mem 13 rfl) (fun w h => List.mem_cons_of_mem _ (List.mem_append_right _ (List.mem_append_right _ (List.mem_append_right _ (List.mem_append_right _ (List.mem_append_right _ (List.mem_append_left _ h))))))) wkg_c_X2_heaviest) rfl rfl rfl (by decide +kernel) ⟨Nat.le_of_ble_eq_true rfl, Nat.le_of_ble_eq_true rfl⟩) ⟨fun a U g mk q => by obtain ⟨q0, qP, qK⟩ := q; exact ⟨q0, qP, va_K.moved (u := U) (U := U.calling g mk a) (Vm.Alike.refl U.vm) qK⟩, va_recv hK hPc (ci := 2) (q0 := 0) rfl rfl, fun U hU hW => ⟨rfl, by rw [hU]; exact hPc, va_K.moved hW.alike hK⟩⟩ rfl rfl hl.1 rfl (lv_room (Nat.le_of_ble_eq_true rfl)) dX11_load_26 ⟨Nat.le_of_ble_eq_true rfl, Nat.le_of_ble_eq_true rfl⟩)) (fun rz163 gz162 => ?_)
          clear hPc
          rw [hQ]
          exact W.iret (v := rz163) hx hb hr (fun t ht hW => ⟨rz163, rfl, trivial, ht⟩) (fun _ h => absurd h List.not_mem_nil) dX11_load_29
        · skip
          have zz164 : p1.toInt = (1 : Int) := zi_eq.mp cz160
          refine W.eq (g2 := F0 m 24 ls [.int 1, .ref (sY 7 1)]) (by rw [cz160]) ?_
          refine va_aldq hx hb hK hP 93 4 rfl rfl (by unfold vp_in; decide) dX11_load_24 ?_
          refine W.eq (g2 := F0 m 25 ls [.ref (sY 7 5)]) rfl ?_
          refine lv_iload_n hx hb dX11_load_25 rfl (lv_at hl 3 rfl) ?_
          have hPc := hP.sub (ws' := (List.flatten [(wMem (fun i => sY 7 (i + 5)) k (fun i => (nY 7) (i + 1)) (fun i => (aY 7) (i + 2)))])) [97, 98, 99] rfl
          refine vp_callSi (va_Run.run (va_runV (As := [.int p3]) (rest := []) ⟨hx, hb, hml, hown, hts⟩ (c_X2_heaviest l dC dI k (fun i => sY 7 (i + 5)) (fun i => (nY 7) (i + 1)) (fun i => (aY 7) (i + 2)) p3 (fun i => (hnY 7) (i + 1))) (cwV 1 hts (gk_V (wl_mem 10 rfl) (wl_mem 11 rfl) (wl_mem 12 rfl) (wl_mem 13 rfl) (fun w h => List.mem_cons_of_mem _ (List.mem_append_right _ (List.mem_append_right _ (List.mem_append_right _ (List.mem_append_right _ (List.mem_append_right _ (List.mem_append_left _ h))))))) wkg_c_X2_heaviest) rfl rfl rfl (by decide +kernel) ⟨Nat.le_of_ble_eq_true rfl, Nat.le_of_ble_eq_true rfl⟩) ⟨fun a U g mk q => by obtain ⟨q0, qP, qK⟩ := q; exact ⟨q0, qP, va_K.moved (u := U) (U := U.calling g mk a) (Vm.Alike.refl U.vm) qK⟩, va_recv hK hPc (ci := 2) (q0 := 0) rfl rfl, fun U hU hW => ⟨rfl, by rw [hU]; exact hPc, va_K.moved hW.alike hK⟩⟩ rfl rfl hl.1 rfl (lv_room (Nat.le_of_ble_eq_true rfl)) dX11_load_26 ⟨Nat.le_of_ble_eq_true rfl, Nat.le_of_ble_eq_true rfl⟩)) (fun rz166 gz165 => ?_)
          clear hPc
          rw [hQ]
          exact W.iret (v := rz166) hx hb hr (fun t ht hW => ⟨rz166, rfl, trivial, ht⟩) (fun _ h => absurd h List.not_mem_nil) dX11_load_29
        · skip
          have zz167 : p1.toInt = (2 : Int) := zi_eq.mp cz160
          refine W.eq (g2 := F0 m 24 ls [.int 2, .ref (sY 7 1)]) (by rw [cz160]) ?_
          refine va_aldq hx hb hK hP 93 4 rfl rfl (by unfold vp_in; decide) dX11_load_24 ?_
          refine W.eq (g2 := F0 m 25 ls [.ref (sY 7 8)]) rfl ?_
          refine lv_iload_n hx hb dX11_load_25 rfl (lv_at hl 3 rfl) ?_
          have hPc := hP.sub (ws' := (List.flatten [(wMem (fun i => sY 7 (i + 8)) k (fun i => (nY 7) (i + 2)) (fun i => (aY 7) (i + 4)))])) [100, 101, 102] rfl
          refine vp_callSi (va_Run.run (va_runV (As := [.int p3]) (rest := []) ⟨hx, hb, hml, hown, hts⟩ (c_X2_heaviest l dC dI k (fun i => sY 7 (i + 8)) (fun i => (nY 7) (i + 2)) (fun i => (aY 7) (i + 4)) p3 (fun i => (hnY 7) (i + 2))) (cwV 1 hts (gk_V (wl_mem 10 rfl) (wl_mem 11 rfl) (wl_mem 12 rfl) (wl_mem 13 rfl) (fun w h => List.mem_cons_of_mem _ (List.mem_append_right _ (List.mem_append_right _ (List.mem_append_right _ (List.mem_append_right _ (List.mem_append_right _ (List.mem_append_left _ h))))))) wkg_c_X2_heaviest) rfl rfl rfl (by decide +kernel) ⟨Nat.le_of_ble_eq_true rfl, Nat.le_of_ble_eq_true rfl⟩) ⟨fun a U g mk q => by obtain ⟨q0, qP, qK⟩ := q; exact ⟨q0, qP, va_K.moved (u := U) (U := U.calling g mk a) (Vm.Alike.refl U.vm) qK⟩, va_recv hK hPc (ci := 2) (q0 := 0) rfl rfl, fun U hU hW => ⟨rfl, by rw [hU]; exact hPc, va_K.moved hW.alike hK⟩⟩ rfl rfl hl.1 rfl (lv_room (Nat.le_of_ble_eq_true rfl)) dX11_load_26 ⟨Nat.le_of_ble_eq_true rfl, Nat.le_of_ble_eq_true rfl⟩)) (fun rz169 gz168 => ?_)
          clear hPc
          rw [hQ]
          exact W.iret (v := rz169) hx hb hr (fun t ht hW => ⟨rz169, rfl, trivial, ht⟩) (fun _ h => absurd h List.not_mem_nil) dX11_load_29
    · skip
      exact absurd cz49 (by decide)
