set_option maxHeartbeats 4000000 in
set_option maxRecDepth 100000 in
theorem law_case_30 {p : Program} {l : Launch} {e : Env} {s : State} {m : MethodId} {below : List Frame} {meth : Method} {c : Code} {dC : Nat → ClassId} {dI : Nat → Nat → Nat} {b L : Nat} {xs : Nat → Int32} (hL6 : L = 6) (C0 : lw_At p s m meth c b L xs) (A : Nat → Prop) (hAe : A = fun q => s.heap.size ≤ q) (q r : Nat → Nat) (k j : Nat → ClassId) (H : Heap) (locs : List Loc) (hK : va_K (dC, dI) vwCl (tX k ++ tM j) s) (hP : va_P (dC, dI) vwCl (wX q k ++ wM r j) H) (hD : va_D A (wX q k ++ wM r j)) (hS : va_S A s.heap H locs) (ls : Array Slot) (hl : lv_has ls 4 [(0, .ref b), (1, .ref (q 0)), (2, .ref (r 0)), (3, .int 0)]) : W p l e room_1 s m #[Value.ref b] below meth c H locs 305 4995 (lw_Z below #[Value.ref b] s) (F0 m 1106 ls []) := by
  obtain ⟨hx, hb, hr, hml, hown, hts, hX, hbl, hlocks, hgv⟩ := id C0
  have hown : s.vm.findClass RL = some m.cls := hown
  have hA : ∀ q : Nat, s.heap.size ≤ q → A q := by rw [hAe]; exact fun _ h => h
  have hbA : ¬ A b := by rw [hAe]; exact Nat.not_le.mpr hbl
  refine lv_aload_n hx hb dL_law_1106 rfl (lv_at hl 1 rfl) ?_
  refine lv_aload_n hx hb dL_law_1107 rfl (lv_at hl 0 rfl) ?_
  refine lv_iload_n hx hb dL_law_1108 rfl (lv_at hl 3 rfl) ?_
  refine lv_iconst (v := 1) hx hb dL_law_1109 (by decide) ?_
  refine lv_iadd hx hb dL_law_1110 ?_
  refine lv_topi (fun xz1 exz1 => ?_)
  obtain rfl : xz1 = 1 := exz1.trans (by decide)
  refine va_sld hx hb hX hbl hbA hS (by rw [hL6]; unfold vp_in; decide) dL_law_1111 ?_
  refine W.eq (g2 := F0 m 1112 ls [.int (xs 1), .ref (q 0)]) rfl ?_
  refine lv_aload_n hx hb dL_law_1112 rfl (lv_at hl 0 rfl) ?_
  refine lv_iload_n hx hb dL_law_1113 rfl (lv_at hl 3 rfl) ?_
  refine lv_iconst (v := 2) hx hb dL_law_1114 (by decide) ?_
  refine lv_iadd hx hb dL_law_1115 ?_
  refine lv_topi (fun xz2 exz2 => ?_)
  obtain rfl : xz2 = 2 := exz2.trans (by decide)
  refine va_sld hx hb hX hbl hbA hS (by rw [hL6]; unfold vp_in; decide) dL_law_1116 ?_
  refine W.eq (g2 := F0 m 1117 ls [.int (xs 2), .int (xs 1), .ref (q 0)]) rfl ?_
  have hPc := hP.sub (ws' := [((q 0), .inr (11, [.ref (q 1), .ref (q 2), .ref (q 3), .ref (q 4), .ref (q 5), .ref (q 6), .ref (q 7), .ref (q 8), .ref (q 9), .ref (q 10), .ref (q 11), .ref (q 12), .ref (q 13), .ref (q 14), .ref (q 15)])), ((q 2), .inr (10, [.ref (q 25), .ref (q 26), .ref (q 27), .ref (q 28), .ref (q 29), .ref (q 30), .ref (q 31), .int 0, .int 0, .int 0, .int 0, .int 0, .int 0, .int 0, .int 0, .int 0]))]) [0, 11] rfl
  have hKc := hK.sub (tys' := []) [] rfl
  refine vp_callSi (va_Run.run (va_runV (As := [.int (xs 1), .int (xs 2)]) (rest := []) ⟨hx, hb, hml, hown, hts⟩ (f_X11_most l dC dI ((q 0)) ((q 1)) ((q 2)) ((q 3)) ((q 4)) ((q 5)) ((q 6)) ((q 7)) ((q 8)) ((q 9)) ((q 10)) ((q 11)) ((q 12)) ((q 13)) ((q 14)) ((q 15)) ((q 25)) ((q 26)) ((q 27)) ((q 28)) ((q 29)) ((q 30)) ((q 31)) ((xs 1)) ((xs 2))) (cwV 2 hts (gk_V tw_878 tw_879 tw_880 tw_157 wki_f_X11_most wkg_f_X11_most) rfl rfl rfl (by decide +kernel) ⟨Nat.le_of_ble_eq_true rfl, Nat.le_of_ble_eq_true rfl⟩) ⟨fun a U g mk q => by obtain ⟨q0, qP, qK⟩ := q; exact ⟨q0, qP, va_K.moved (u := U) (U := U.calling g mk a) (Vm.Alike.refl U.vm) qK⟩, va_recv hKc hPc (ci := 11) (q0 := 0) rfl rfl, fun U hU hW => ⟨rfl, by rw [hU]; exact hPc, va_K.moved hW.alike hKc⟩⟩ rfl rfl hl.1 rfl (lv_room (Nat.le_of_ble_eq_true rfl)) dL_law_1117 ⟨Nat.le_of_ble_eq_true rfl, Nat.le_of_ble_eq_true rfl⟩)) (fun oz4 gz3 => ?_)
  obtain rfl := gz3
  refine lv_aload_n hx hb dL_law_1120 rfl (lv_at hl 2 rfl) ?_
  refine lv_aload_n hx hb dL_law_1121 rfl (lv_at hl 0 rfl) ?_
  refine lv_iload_n hx hb dL_law_1122 rfl (lv_at hl 3 rfl) ?_
  refine lv_iconst (v := 1) hx hb dL_law_1123 (by decide) ?_
  refine lv_iadd hx hb dL_law_1124 ?_
  refine lv_topi (fun xz5 exz5 => ?_)
  obtain rfl : xz5 = 1 := exz5.trans (by decide)
  refine va_sld hx hb hX hbl hbA hS (by rw [hL6]; unfold vp_in; decide) dL_law_1125 ?_
  refine W.eq (g2 := F0 m 1126 ls [.int (xs 1), .ref (r 0), .int (-2)]) rfl ?_
  refine lv_aload_n hx hb dL_law_1126 rfl (lv_at hl 0 rfl) ?_
  refine lv_iload_n hx hb dL_law_1127 rfl (lv_at hl 3 rfl) ?_
  refine lv_iconst (v := 2) hx hb dL_law_1128 (by decide) ?_
  refine lv_iadd hx hb dL_law_1129 ?_
  refine lv_topi (fun xz6 exz6 => ?_)
  obtain rfl : xz6 = 2 := exz6.trans (by decide)
  refine va_sld hx hb hX hbl hbA hS (by rw [hL6]; unfold vp_in; decide) dL_law_1130 ?_
  refine W.eq (g2 := F0 m 1131 ls [.int (xs 2), .int (xs 1), .ref (r 0), .int (-2)]) rfl ?_
  have hPc := hP.sub (ws' := [((r 0), .inr (12, [.int 0, .ref (r 1), .ref (r 2), .ref (r 3), .ref (r 4), .ref (r 5), .int 0, .int 0, .int 0, .int 0, .int 0, .long 0, .int 0, .int 0, .int 0, .int (-1), .ref (r 6), .ref (r 7), .ref (r 8), .ref (r 9), .ref (r 10), .ref (r 11), .ref (r 12), .ref (r 13), .int 0, .int 0, .int 0, .ref (r 14), .ref (r 15), .ref (r 16), .ref (r 17), .ref (r 18), .ref (r 19), .ref (r 20), .ref (r 21), .ref (r 22), .ref (r 23), .ref (r 24), .ref (r 25), .ref (r 26), .ref (r 27), .ref (r 28), .ref (r 29), .int 0, .int 0, .int 0, .ref (r 30), .int 0, .int 0, .int 0, .int 0, .int 0, .int 0, .ref (r 31), .int 0, .int 0, .int 0, .ref (r 32), .ref (r 33)])), ((r 6), .inl ((j 4), 5, .inl (fun _ => 0))), ((r 7), .inl ((j 5), 40, .inl (fun _ => 0)))]) [78, 83, 84] rfl
  have hKc := hK.sub (tys' := [((j 4), .int), ((j 5), .int)]) [60, 61] rfl
  have hDc := hD.sub (ws' := [((r 0), .inr (12, [.int 0, .ref (r 1), .ref (r 2), .ref (r 3), .ref (r 4), .ref (r 5), .int 0, .int 0, .int 0, .int 0, .int 0, .long 0, .int 0, .int 0, .int 0, .int (-1), .ref (r 6), .ref (r 7), .ref (r 8), .ref (r 9), .ref (r 10), .ref (r 11), .ref (r 12), .ref (r 13), .int 0, .int 0, .int 0, .ref (r 14), .ref (r 15), .ref (r 16), .ref (r 17), .ref (r 18), .ref (r 19), .ref (r 20), .ref (r 21), .ref (r 22), .ref (r 23), .ref (r 24), .ref (r 25), .ref (r 26), .ref (r 27), .ref (r 28), .ref (r 29), .int 0, .int 0, .int 0, .ref (r 30), .int 0, .int 0, .int 0, .int 0, .int 0, .int 0, .ref (r 31), .int 0, .int 0, .int 0, .ref (r 32), .ref (r 33)])), ((r 6), .inl ((j 4), 5, .inl (fun _ => 0))), ((r 7), .inl ((j 5), 40, .inl (fun _ => 0)))]) [78, 83, 84] (by decide) rfl
  have hFc := va_free (wc := [((r 0), .inr (12, [.int 0, .ref (r 1), .ref (r 2), .ref (r 3), .ref (r 4), .ref (r 5), .int 0, .int 0, .int 0, .int 0, .int 0, .long 0, .int 0, .int 0, .int 0, .int (-1), .ref (r 6), .ref (r 7), .ref (r 8), .ref (r 9), .ref (r 10), .ref (r 11), .ref (r 12), .ref (r 13), .int 0, .int 0, .int 0, .ref (r 14), .ref (r 15), .ref (r 16), .ref (r 17), .ref (r 18), .ref (r 19), .ref (r 20), .ref (r 21), .ref (r 22), .ref (r 23), .ref (r 24), .ref (r 25), .ref (r 26), .ref (r 27), .ref (r 28), .ref (r 29), .int 0, .int 0, .int 0, .ref (r 30), .int 0, .int 0, .int 0, .int 0, .int 0, .int 0, .ref (r 31), .int 0, .int 0, .int 0, .ref (r 32), .ref (r 33)])), ((r 6), .inl ((j 4), 5, .inl (fun _ => 0))), ((r 7), .inl ((j 5), 40, .inl (fun _ => 0)))]) hD hS hA [78, 83, 84] rfl
  refine va_calli (va_runV (As := [.int (xs 1), .int (xs 2)]) (rest := [.int (-2)]) ⟨hx, hb, hml, hown, hts⟩ (f_X12_most l dC dI H.size ((r 0)) ((r 1)) ((r 2)) ((r 3)) ((r 4)) ((r 5)) ((r 6)) ((r 7)) ((r 8)) ((r 9)) ((r 10)) ((r 11)) ((r 12)) ((r 13)) ((r 14)) ((r 15)) ((r 16)) ((r 17)) ((r 18)) ((r 19)) ((r 20)) ((r 21)) ((r 22)) ((r 23)) ((r 24)) ((r 25)) ((r 26)) ((r 27)) ((r 28)) ((r 29)) ((r 30)) ((r 31)) ((r 32)) ((r 33)) ((j 4)) ((j 5)) ((xs 1)) ((xs 2))) (cwV 2 hts (gk_V tw_881 tw_882 tw_883 tw_505 wki_f_X12_most wkg_f_X12_most) rfl rfl rfl (by decide +kernel) ⟨Nat.le_of_ble_eq_true rfl, Nat.le_of_ble_eq_true rfl⟩) ⟨fun a U g mk q => by obtain ⟨q0, q1, qP, qK, qD⟩ := q; exact ⟨q0, q1, qP, va_K.moved (u := U) (U := U.calling g mk a) (Vm.Alike.refl U.vm) qK, qD⟩, va_recv hKc hPc (ci := 12) (q0 := 0) rfl rfl, fun U hU hW => ⟨rfl, by rw [hU], by rw [hU]; exact hPc, va_K.moved hW.alike hKc, hDc.weaken (fun _ _ _ _ => trivial)⟩⟩ rfl rfl hl.1 rfl (lv_room (Nat.le_of_ble_eq_true rfl)) dL_law_1131 ⟨Nat.le_of_ble_eq_true rfl, Nat.le_of_ble_eq_true rfl⟩) hS (fun q _ h => hFc q h) hFc (fun oz8 u t H1 locs ht hvm gz7 hB hz1 hk1 hS => ?_)
  generalize H1 = H at hS ⊢
  refine W.widen (k := 305) (n := 4995) (Nat.le_of_ble_eq_true rfl) (Nat.le_of_ble_eq_true rfl) ?_
  obtain rfl := gz7
  refine lv_icmp_eq (tgt := 2293) hx hb dL_law_1134 (by decide) (fun cz9 => ?_) (fun cz9 => ?_)
  · skip
    exact law_end (dC := dC) (dI := dI) (Nat.le_of_eq hL6) C0 A hAe (q 0) (r 0) H locs hS ls hl
  · skip
    exact absurd cz9 (by decide)
set_option maxHeartbeats 4000000 in
set_option maxRecDepth 100000 in
theorem law_case_31 {p : Program} {l : Launch} {e : Env} {s : State} {m : MethodId} {below : List Frame} {meth : Method} {c : Code} {dC : Nat → ClassId} {dI : Nat → Nat → Nat} {b L : Nat} {xs : Nat → Int32} (hL6 : L = 6) (C0 : lw_At p s m meth c b L xs) (A : Nat → Prop) (hAe : A = fun q => s.heap.size ≤ q) (q r : Nat → Nat) (k j : Nat → ClassId) (H : Heap) (locs : List Loc) (hK : va_K (dC, dI) vwCl (tX k ++ tM j) s) (hP : va_P (dC, dI) vwCl (wX q k ++ wM r j) H) (hD : va_D A (wX q k ++ wM r j)) (hS : va_S A s.heap H locs) (ls : Array Slot) (hl : lv_has ls 4 [(0, .ref b), (1, .ref (q 0)), (2, .ref (r 0)), (3, .int 0)]) : W p l e room_1 s m #[Value.ref b] below meth c H locs 305 4995 (lw_Z below #[Value.ref b] s) (F0 m 1139 ls []) := by
  obtain ⟨hx, hb, hr, hml, hown, hts, hX, hbl, hlocks, hgv⟩ := id C0
  have hown : s.vm.findClass RL = some m.cls := hown
  have hA : ∀ q : Nat, s.heap.size ≤ q → A q := by rw [hAe]; exact fun _ h => h
  have hbA : ¬ A b := by rw [hAe]; exact Nat.not_le.mpr hbl
  refine lv_aload_n hx hb dL_law_1139 rfl (lv_at hl 1 rfl) ?_
  have hPc := hP.sub (ws' := [((q 0), .inr (11, [.ref (q 1), .ref (q 2), .ref (q 3), .ref (q 4), .ref (q 5), .ref (q 6), .ref (q 7), .ref (q 8), .ref (q 9), .ref (q 10), .ref (q 11), .ref (q 12), .ref (q 13), .ref (q 14), .ref (q 15)])), ((q 2), .inr (10, [.ref (q 25), .ref (q 26), .ref (q 27), .ref (q 28), .ref (q 29), .ref (q 30), .ref (q 31), .int 0, .int 0, .int 0, .int 0, .int 0, .int 0, .int 0, .int 0, .int 0]))]) [0, 11] rfl
  have hKc := hK.sub (tys' := []) [] rfl
  refine vp_callSi (va_Run.run (va_runV (As := []) (rest := []) ⟨hx, hb, hml, hown, hts⟩ (f_X11_least l dC dI ((q 0)) ((q 1)) ((q 2)) ((q 3)) ((q 4)) ((q 5)) ((q 6)) ((q 7)) ((q 8)) ((q 9)) ((q 10)) ((q 11)) ((q 12)) ((q 13)) ((q 14)) ((q 15)) ((q 25)) ((q 26)) ((q 27)) ((q 28)) ((q 29)) ((q 30)) ((q 31))) (cwV 0 hts (gk_V tw_884 tw_885 tw_886 tw_157 wki_f_X11_least wkg_f_X11_least) rfl rfl rfl (by decide +kernel) ⟨Nat.le_of_ble_eq_true rfl, Nat.le_of_ble_eq_true rfl⟩) ⟨fun a U g mk q => by obtain ⟨q0, qP, qK⟩ := q; exact ⟨q0, qP, va_K.moved (u := U) (U := U.calling g mk a) (Vm.Alike.refl U.vm) qK⟩, va_recv hKc hPc (ci := 11) (q0 := 0) rfl rfl, fun U hU hW => ⟨rfl, by rw [hU]; exact hPc, va_K.moved hW.alike hKc⟩⟩ rfl rfl hl.1 rfl (lv_room (Nat.le_of_ble_eq_true rfl)) dL_law_1140 ⟨Nat.le_of_ble_eq_true rfl, Nat.le_of_ble_eq_true rfl⟩)) (fun oz2 gz1 => ?_)
  obtain rfl := gz1
  refine lv_aload_n hx hb dL_law_1143 rfl (lv_at hl 2 rfl) ?_
  have hPc := hP.sub (ws' := [((r 0), .inr (12, [.int 0, .ref (r 1), .ref (r 2), .ref (r 3), .ref (r 4), .ref (r 5), .int 0, .int 0, .int 0, .int 0, .int 0, .long 0, .int 0, .int 0, .int 0, .int (-1), .ref (r 6), .ref (r 7), .ref (r 8), .ref (r 9), .ref (r 10), .ref (r 11), .ref (r 12), .ref (r 13), .int 0, .int 0, .int 0, .ref (r 14), .ref (r 15), .ref (r 16), .ref (r 17), .ref (r 18), .ref (r 19), .ref (r 20), .ref (r 21), .ref (r 22), .ref (r 23), .ref (r 24), .ref (r 25), .ref (r 26), .ref (r 27), .ref (r 28), .ref (r 29), .int 0, .int 0, .int 0, .ref (r 30), .int 0, .int 0, .int 0, .int 0, .int 0, .int 0, .ref (r 31), .int 0, .int 0, .int 0, .ref (r 32), .ref (r 33)])), ((r 6), .inl ((j 4), 5, .inl (fun _ => 0))), ((r 7), .inl ((j 5), 40, .inl (fun _ => 0)))]) [78, 83, 84] rfl
  have hKc := hK.sub (tys' := [((j 4), .int), ((j 5), .int)]) [60, 61] rfl
  have hDc := hD.sub (ws' := [((r 0), .inr (12, [.int 0, .ref (r 1), .ref (r 2), .ref (r 3), .ref (r 4), .ref (r 5), .int 0, .int 0, .int 0, .int 0, .int 0, .long 0, .int 0, .int 0, .int 0, .int (-1), .ref (r 6), .ref (r 7), .ref (r 8), .ref (r 9), .ref (r 10), .ref (r 11), .ref (r 12), .ref (r 13), .int 0, .int 0, .int 0, .ref (r 14), .ref (r 15), .ref (r 16), .ref (r 17), .ref (r 18), .ref (r 19), .ref (r 20), .ref (r 21), .ref (r 22), .ref (r 23), .ref (r 24), .ref (r 25), .ref (r 26), .ref (r 27), .ref (r 28), .ref (r 29), .int 0, .int 0, .int 0, .ref (r 30), .int 0, .int 0, .int 0, .int 0, .int 0, .int 0, .ref (r 31), .int 0, .int 0, .int 0, .ref (r 32), .ref (r 33)])), ((r 6), .inl ((j 4), 5, .inl (fun _ => 0))), ((r 7), .inl ((j 5), 40, .inl (fun _ => 0)))]) [78, 83, 84] (by decide) rfl
  have hFc := va_free (wc := [((r 0), .inr (12, [.int 0, .ref (r 1), .ref (r 2), .ref (r 3), .ref (r 4), .ref (r 5), .int 0, .int 0, .int 0, .int 0, .int 0, .long 0, .int 0, .int 0, .int 0, .int (-1), .ref (r 6), .ref (r 7), .ref (r 8), .ref (r 9), .ref (r 10), .ref (r 11), .ref (r 12), .ref (r 13), .int 0, .int 0, .int 0, .ref (r 14), .ref (r 15), .ref (r 16), .ref (r 17), .ref (r 18), .ref (r 19), .ref (r 20), .ref (r 21), .ref (r 22), .ref (r 23), .ref (r 24), .ref (r 25), .ref (r 26), .ref (r 27), .ref (r 28), .ref (r 29), .int 0, .int 0, .int 0, .ref (r 30), .int 0, .int 0, .int 0, .int 0, .int 0, .int 0, .ref (r 31), .int 0, .int 0, .int 0, .ref (r 32), .ref (r 33)])), ((r 6), .inl ((j 4), 5, .inl (fun _ => 0))), ((r 7), .inl ((j 5), 40, .inl (fun _ => 0)))]) hD hS hA [78, 83, 84] rfl
  refine va_calli (va_runV (As := []) (rest := [.int (-2)]) ⟨hx, hb, hml, hown, hts⟩ (f_X12_least l dC dI H.size ((r 0)) ((r 1)) ((r 2)) ((r 3)) ((r 4)) ((r 5)) ((r 6)) ((r 7)) ((r 8)) ((r 9)) ((r 10)) ((r 11)) ((r 12)) ((r 13)) ((r 14)) ((r 15)) ((r 16)) ((r 17)) ((r 18)) ((r 19)) ((r 20)) ((r 21)) ((r 22)) ((r 23)) ((r 24)) ((r 25)) ((r 26)) ((r 27)) ((r 28)) ((r 29)) ((r 30)) ((r 31)) ((r 32)) ((r 33)) ((j 4)) ((j 5))) (cwV 0 hts (gk_V tw_887 tw_888 tw_889 tw_505 wki_f_X12_least wkg_f_X12_least) rfl rfl rfl (by decide +kernel) ⟨Nat.le_of_ble_eq_true rfl, Nat.le_of_ble_eq_true rfl⟩) ⟨fun a U g mk q => by obtain ⟨q0, q1, qP, qK, qD⟩ := q; exact ⟨q0, q1, qP, va_K.moved (u := U) (U := U.calling g mk a) (Vm.Alike.refl U.vm) qK, qD⟩, va_recv hKc hPc (ci := 12) (q0 := 0) rfl rfl, fun U hU hW => ⟨rfl, by rw [hU], by rw [hU]; exact hPc, va_K.moved hW.alike hKc, hDc.weaken (fun _ _ _ _ => trivial)⟩⟩ rfl rfl hl.1 rfl (lv_room (Nat.le_of_ble_eq_true rfl)) dL_law_1144 ⟨Nat.le_of_ble_eq_true rfl, Nat.le_of_ble_eq_true rfl⟩) hS (fun q _ h => hFc q h) hFc (fun oz4 u t H1 locs ht hvm gz3 hB hz1 hk1 hS => ?_)
  generalize H1 = H at hS ⊢
  refine W.widen (k := 305) (n := 4995) (Nat.le_of_ble_eq_true rfl) (Nat.le_of_ble_eq_true rfl) ?_
  obtain rfl := gz3
  refine lv_icmp_eq (tgt := 2293) hx hb dL_law_1147 (by decide) (fun cz5 => ?_) (fun cz5 => ?_)
  · skip
    exact law_end (dC := dC) (dI := dI) (Nat.le_of_eq hL6) C0 A hAe (q 0) (r 0) H locs hS ls hl
  · skip
    exact absurd cz5 (by decide)
set_option maxHeartbeats 4000000 in
set_option maxRecDepth 100000 in
theorem law_case_32 {p : Program} {l : Launch} {e : Env} {s : State} {m : MethodId} {below : List Frame} {meth : Method} {c : Code} {dC : Nat → ClassId} {dI : Nat → Nat → Nat} {b L : Nat} {xs : Nat → Int32} (hL6 : L = 6) (C0 : lw_At p s m meth c b L xs) (A : Nat → Prop) (hAe : A = fun q => s.heap.size ≤ q) (q r : Nat → Nat) (k j : Nat → ClassId) (H : Heap) (locs : List Loc) (hK : va_K (dC, dI) vwCl (tX k ++ tM j) s) (hP : va_P (dC, dI) vwCl (wX q k ++ wM r j) H) (hD : va_D A (wX q k ++ wM r j)) (hS : va_S A s.heap H locs) (ls : Array Slot) (hl : lv_has ls 4 [(0, .ref b), (1, .ref (q 0)), (2, .ref (r 0)), (3, .int 0)]) : W p l e room_1 s m #[Value.ref b] below meth c H locs 305 4995 (lw_Z below #[Value.ref b] s) (F0 m 1152 ls []) := by
  obtain ⟨hx, hb, hr, hml, hown, hts, hX, hbl, hlocks, hgv⟩ := id C0
  have hown : s.vm.findClass RL = some m.cls := hown
  have hA : ∀ q : Nat, s.heap.size ≤ q → A q := by rw [hAe]; exact fun _ h => h
  have hbA : ¬ A b := by rw [hAe]; exact Nat.not_le.mpr hbl
  refine lv_aload_n hx hb dL_law_1152 rfl (lv_at hl 1 rfl) ?_
  refine lv_aload_n hx hb dL_law_1153 rfl (lv_at hl 0 rfl) ?_
  refine lv_iload_n hx hb dL_law_1154 rfl (lv_at hl 3 rfl) ?_
  refine lv_iconst (v := 1) hx hb dL_law_1155 (by decide) ?_
  refine lv_iadd hx hb dL_law_1156 ?_
  refine lv_topi (fun xz1 exz1 => ?_)
  obtain rfl : xz1 = 1 := exz1.trans (by decide)
  refine va_sld hx hb hX hbl hbA hS (by rw [hL6]; unfold vp_in; decide) dL_law_1157 ?_
  refine W.eq (g2 := F0 m 1158 ls [.int (xs 1), .ref (q 0)]) rfl ?_
  have hPc := hP.sub (ws' := [((q 0), .inr (11, [.ref (q 1), .ref (q 2), .ref (q 3), .ref (q 4), .ref (q 5), .ref (q 6), .ref (q 7), .ref (q 8), .ref (q 9), .ref (q 10), .ref (q 11), .ref (q 12), .ref (q 13), .ref (q 14), .ref (q 15)])), ((q 2), .inr (10, [.ref (q 25), .ref (q 26), .ref (q 27), .ref (q 28), .ref (q 29), .ref (q 30), .ref (q 31), .int 0, .int 0, .int 0, .int 0, .int 0, .int 0, .int 0, .int 0, .int 0]))]) [0, 11] rfl
  have hKc := hK.sub (tys' := []) [] rfl
  refine vp_callSi (va_Run.run (va_runV (As := [.int (xs 1)]) (rest := []) ⟨hx, hb, hml, hown, hts⟩ (f_X11_order l dC dI ((q 0)) ((q 1)) ((q 2)) ((q 3)) ((q 4)) ((q 5)) ((q 6)) ((q 7)) ((q 8)) ((q 9)) ((q 10)) ((q 11)) ((q 12)) ((q 13)) ((q 14)) ((q 15)) ((q 25)) ((q 26)) ((q 27)) ((q 28)) ((q 29)) ((q 30)) ((q 31)) ((xs 1))) (cwV 1 hts (gk_V tw_890 tw_891 tw_892 tw_157 wki_f_X11_order wkg_f_X11_order) rfl rfl rfl (by decide +kernel) ⟨Nat.le_of_ble_eq_true rfl, Nat.le_of_ble_eq_true rfl⟩) ⟨fun a U g mk q => by obtain ⟨q0, qP, qK⟩ := q; exact ⟨q0, qP, va_K.moved (u := U) (U := U.calling g mk a) (Vm.Alike.refl U.vm) qK⟩, va_recv hKc hPc (ci := 11) (q0 := 0) rfl rfl, fun U hU hW => ⟨rfl, by rw [hU]; exact hPc, va_K.moved hW.alike hKc⟩⟩ rfl rfl hl.1 rfl (lv_room (Nat.le_of_ble_eq_true rfl)) dL_law_1158 ⟨Nat.le_of_ble_eq_true rfl, Nat.le_of_ble_eq_true rfl⟩)) (fun oz3 gz2 => ?_)
  obtain rfl := gz2
  refine lv_aload_n hx hb dL_law_1161 rfl (lv_at hl 2 rfl) ?_
  refine lv_aload_n hx hb dL_law_1162 rfl (lv_at hl 0 rfl) ?_
  refine lv_iload_n hx hb dL_law_1163 rfl (lv_at hl 3 rfl) ?_
  refine lv_iconst (v := 1) hx hb dL_law_1164 (by decide) ?_
  refine lv_iadd hx hb dL_law_1165 ?_
  refine lv_topi (fun xz4 exz4 => ?_)
  obtain rfl : xz4 = 1 := exz4.trans (by decide)
  refine va_sld hx hb hX hbl hbA hS (by rw [hL6]; unfold vp_in; decide) dL_law_1166 ?_
  refine W.eq (g2 := F0 m 1167 ls [.int (xs 1), .ref (r 0), .int (-2)]) rfl ?_
  have hPc := hP.sub (ws' := [((r 0), .inr (12, [.int 0, .ref (r 1), .ref (r 2), .ref (r 3), .ref (r 4), .ref (r 5), .int 0, .int 0, .int 0, .int 0, .int 0, .long 0, .int 0, .int 0, .int 0, .int (-1), .ref (r 6), .ref (r 7), .ref (r 8), .ref (r 9), .ref (r 10), .ref (r 11), .ref (r 12), .ref (r 13), .int 0, .int 0, .int 0, .ref (r 14), .ref (r 15), .ref (r 16), .ref (r 17), .ref (r 18), .ref (r 19), .ref (r 20), .ref (r 21), .ref (r 22), .ref (r 23), .ref (r 24), .ref (r 25), .ref (r 26), .ref (r 27), .ref (r 28), .ref (r 29), .int 0, .int 0, .int 0, .ref (r 30), .int 0, .int 0, .int 0, .int 0, .int 0, .int 0, .ref (r 31), .int 0, .int 0, .int 0, .ref (r 32), .ref (r 33)])), ((r 6), .inl ((j 4), 5, .inl (fun _ => 0))), ((r 7), .inl ((j 5), 40, .inl (fun _ => 0)))]) [78, 83, 84] rfl
  have hKc := hK.sub (tys' := [((j 4), .int), ((j 5), .int)]) [60, 61] rfl
  have hDc := hD.sub (ws' := [((r 0), .inr (12, [.int 0, .ref (r 1), .ref (r 2), .ref (r 3), .ref (r 4), .ref (r 5), .int 0, .int 0, .int 0, .int 0, .int 0, .long 0, .int 0, .int 0, .int 0, .int (-1), .ref (r 6), .ref (r 7), .ref (r 8), .ref (r 9), .ref (r 10), .ref (r 11), .ref (r 12), .ref (r 13), .int 0, .int 0, .int 0, .ref (r 14), .ref (r 15), .ref (r 16), .ref (r 17), .ref (r 18), .ref (r 19), .ref (r 20), .ref (r 21), .ref (r 22), .ref (r 23), .ref (r 24), .ref (r 25), .ref (r 26), .ref (r 27), .ref (r 28), .ref (r 29), .int 0, .int 0, .int 0, .ref (r 30), .int 0, .int 0, .int 0, .int 0, .int 0, .int 0, .ref (r 31), .int 0, .int 0, .int 0, .ref (r 32), .ref (r 33)])), ((r 6), .inl ((j 4), 5, .inl (fun _ => 0))), ((r 7), .inl ((j 5), 40, .inl (fun _ => 0)))]) [78, 83, 84] (by decide) rfl
  have hFc := va_free (wc := [((r 0), .inr (12, [.int 0, .ref (r 1), .ref (r 2), .ref (r 3), .ref (r 4), .ref (r 5), .int 0, .int 0, .int 0, .int 0, .int 0, .long 0, .int 0, .int 0, .int 0, .int (-1), .ref (r 6), .ref (r 7), .ref (r 8), .ref (r 9), .ref (r 10), .ref (r 11), .ref (r 12), .ref (r 13), .int 0, .int 0, .int 0, .ref (r 14), .ref (r 15), .ref (r 16), .ref (r 17), .ref (r 18), .ref (r 19), .ref (r 20), .ref (r 21), .ref (r 22), .ref (r 23), .ref (r 24), .ref (r 25), .ref (r 26), .ref (r 27), .ref (r 28), .ref (r 29), .int 0, .int 0, .int 0, .ref (r 30), .int 0, .int 0, .int 0, .int 0, .int 0, .int 0, .ref (r 31), .int 0, .int 0, .int 0, .ref (r 32), .ref (r 33)])), ((r 6), .inl ((j 4), 5, .inl (fun _ => 0))), ((r 7), .inl ((j 5), 40, .inl (fun _ => 0)))]) hD hS hA [78, 83, 84] rfl
  refine va_calli (va_runV (As := [.int (xs 1)]) (rest := [.int (-2)]) ⟨hx, hb, hml, hown, hts⟩ (f_X12_order l dC dI H.size ((r 0)) ((r 1)) ((r 2)) ((r 3)) ((r 4)) ((r 5)) ((r 6)) ((r 7)) ((r 8)) ((r 9)) ((r 10)) ((r 11)) ((r 12)) ((r 13)) ((r 14)) ((r 15)) ((r 16)) ((r 17)) ((r 18)) ((r 19)) ((r 20)) ((r 21)) ((r 22)) ((r 23)) ((r 24)) ((r 25)) ((r 26)) ((r 27)) ((r 28)) ((r 29)) ((r 30)) ((r 31)) ((r 32)) ((r 33)) ((j 4)) ((j 5)) ((xs 1))) (cwV 1 hts (gk_V tw_893 tw_894 tw_895 tw_505 wki_f_X12_order wkg_f_X12_order) rfl rfl rfl (by decide +kernel) ⟨Nat.le_of_ble_eq_true rfl, Nat.le_of_ble_eq_true rfl⟩) ⟨fun a U g mk q => by obtain ⟨q0, q1, qP, qK, qD⟩ := q; exact ⟨q0, q1, qP, va_K.moved (u := U) (U := U.calling g mk a) (Vm.Alike.refl U.vm) qK, qD⟩, va_recv hKc hPc (ci := 12) (q0 := 0) rfl rfl, fun U hU hW => ⟨rfl, by rw [hU], by rw [hU]; exact hPc, va_K.moved hW.alike hKc, hDc.weaken (fun _ _ _ _ => trivial)⟩⟩ rfl rfl hl.1 rfl (lv_room (Nat.le_of_ble_eq_true rfl)) dL_law_1167 ⟨Nat.le_of_ble_eq_true rfl, Nat.le_of_ble_eq_true rfl⟩) hS (fun q _ h => hFc q h) hFc (fun oz6 u t H1 locs ht hvm gz5 hB hz1 hk1 hS => ?_)
  generalize H1 = H at hS ⊢
  refine W.widen (k := 305) (n := 4995) (Nat.le_of_ble_eq_true rfl) (Nat.le_of_ble_eq_true rfl) ?_
  obtain rfl := gz5
  refine lv_icmp_eq (tgt := 2293) hx hb dL_law_1170 (by decide) (fun cz7 => ?_) (fun cz7 => ?_)
  · skip
    exact law_end (dC := dC) (dI := dI) (Nat.le_of_eq hL6) C0 A hAe (q 0) (r 0) H locs hS ls hl
  · skip
    exact absurd cz7 (by decide)
set_option maxHeartbeats 4000000 in
set_option maxRecDepth 100000 in
theorem law_case_33 {p : Program} {l : Launch} {e : Env} {s : State} {m : MethodId} {below : List Frame} {meth : Method} {c : Code} {dC : Nat → ClassId} {dI : Nat → Nat → Nat} {b L : Nat} {xs : Nat → Int32} (hL6 : L = 6) (C0 : lw_At p s m meth c b L xs) (A : Nat → Prop) (hAe : A = fun q => s.heap.size ≤ q) (q r : Nat → Nat) (k j : Nat → ClassId) (H : Heap) (locs : List Loc) (hK : va_K (dC, dI) vwCl (tX k ++ tM j) s) (hP : va_P (dC, dI) vwCl (wX q k ++ wM r j) H) (hD : va_D A (wX q k ++ wM r j)) (hS : va_S A s.heap H locs) (ls : Array Slot) (hl : lv_has ls 4 [(0, .ref b), (1, .ref (q 0)), (2, .ref (r 0)), (3, .int 0)]) : W p l e room_1 s m #[Value.ref b] below meth c H locs 305 4995 (lw_Z below #[Value.ref b] s) (F0 m 1175 ls []) := by
  obtain ⟨hx, hb, hr, hml, hown, hts, hX, hbl, hlocks, hgv⟩ := id C0
  have hown : s.vm.findClass RL = some m.cls := hown
  have hA : ∀ q : Nat, s.heap.size ≤ q → A q := by rw [hAe]; exact fun _ h => h
  have hbA : ¬ A b := by rw [hAe]; exact Nat.not_le.mpr hbl
  refine lv_aload_n hx hb dL_law_1175 rfl (lv_at hl 1 rfl) ?_
  have hPc := hP.sub (ws' := [((q 0), .inr (11, [.ref (q 1), .ref (q 2), .ref (q 3), .ref (q 4), .ref (q 5), .ref (q 6), .ref (q 7), .ref (q 8), .ref (q 9), .ref (q 10), .ref (q 11), .ref (q 12), .ref (q 13), .ref (q 14), .ref (q 15)])), ((q 2), .inr (10, [.ref (q 25), .ref (q 26), .ref (q 27), .ref (q 28), .ref (q 29), .ref (q 30), .ref (q 31), .int 0, .int 0, .int 0, .int 0, .int 0, .int 0, .int 0, .int 0, .int 0]))]) [0, 11] rfl
  have hKc := hK.sub (tys' := []) [] rfl
  refine vp_callSi (va_Run.run (va_runV (As := []) (rest := []) ⟨hx, hb, hml, hown, hts⟩ (f_X11_orders l dC dI ((q 0)) ((q 1)) ((q 2)) ((q 3)) ((q 4)) ((q 5)) ((q 6)) ((q 7)) ((q 8)) ((q 9)) ((q 10)) ((q 11)) ((q 12)) ((q 13)) ((q 14)) ((q 15)) ((q 25)) ((q 26)) ((q 27)) ((q 28)) ((q 29)) ((q 30)) ((q 31))) (cwV 0 hts (gk_V tw_896 tw_897 tw_898 tw_157 wki_f_X11_orders wkg_f_X11_orders) rfl rfl rfl (by decide +kernel) ⟨Nat.le_of_ble_eq_true rfl, Nat.le_of_ble_eq_true rfl⟩) ⟨fun a U g mk q => by obtain ⟨q0, qP, qK⟩ := q; exact ⟨q0, qP, va_K.moved (u := U) (U := U.calling g mk a) (Vm.Alike.refl U.vm) qK⟩, va_recv hKc hPc (ci := 11) (q0 := 0) rfl rfl, fun U hU hW => ⟨rfl, by rw [hU]; exact hPc, va_K.moved hW.alike hKc⟩⟩ rfl rfl hl.1 rfl (lv_room (Nat.le_of_ble_eq_true rfl)) dL_law_1176 ⟨Nat.le_of_ble_eq_true rfl, Nat.le_of_ble_eq_true rfl⟩)) (fun oz2 gz1 => ?_)
  obtain rfl := gz1
  refine lv_aload_n hx hb dL_law_1179 rfl (lv_at hl 2 rfl) ?_
  have hPc := hP.sub (ws' := [((r 0), .inr (12, [.int 0, .ref (r 1), .ref (r 2), .ref (r 3), .ref (r 4), .ref (r 5), .int 0, .int 0, .int 0, .int 0, .int 0, .long 0, .int 0, .int 0, .int 0, .int (-1), .ref (r 6), .ref (r 7), .ref (r 8), .ref (r 9), .ref (r 10), .ref (r 11), .ref (r 12), .ref (r 13), .int 0, .int 0, .int 0, .ref (r 14), .ref (r 15), .ref (r 16), .ref (r 17), .ref (r 18), .ref (r 19), .ref (r 20), .ref (r 21), .ref (r 22), .ref (r 23), .ref (r 24), .ref (r 25), .ref (r 26), .ref (r 27), .ref (r 28), .ref (r 29), .int 0, .int 0, .int 0, .ref (r 30), .int 0, .int 0, .int 0, .int 0, .int 0, .int 0, .ref (r 31), .int 0, .int 0, .int 0, .ref (r 32), .ref (r 33)])), ((r 6), .inl ((j 4), 5, .inl (fun _ => 0))), ((r 7), .inl ((j 5), 40, .inl (fun _ => 0)))]) [78, 83, 84] rfl
  have hKc := hK.sub (tys' := [((j 4), .int), ((j 5), .int)]) [60, 61] rfl
  have hDc := hD.sub (ws' := [((r 0), .inr (12, [.int 0, .ref (r 1), .ref (r 2), .ref (r 3), .ref (r 4), .ref (r 5), .int 0, .int 0, .int 0, .int 0, .int 0, .long 0, .int 0, .int 0, .int 0, .int (-1), .ref (r 6), .ref (r 7), .ref (r 8), .ref (r 9), .ref (r 10), .ref (r 11), .ref (r 12), .ref (r 13), .int 0, .int 0, .int 0, .ref (r 14), .ref (r 15), .ref (r 16), .ref (r 17), .ref (r 18), .ref (r 19), .ref (r 20), .ref (r 21), .ref (r 22), .ref (r 23), .ref (r 24), .ref (r 25), .ref (r 26), .ref (r 27), .ref (r 28), .ref (r 29), .int 0, .int 0, .int 0, .ref (r 30), .int 0, .int 0, .int 0, .int 0, .int 0, .int 0, .ref (r 31), .int 0, .int 0, .int 0, .ref (r 32), .ref (r 33)])), ((r 6), .inl ((j 4), 5, .inl (fun _ => 0))), ((r 7), .inl ((j 5), 40, .inl (fun _ => 0)))]) [78, 83, 84] (by decide) rfl
  have hFc := va_free (wc := [((r 0), .inr (12, [.int 0, .ref (r 1), .ref (r 2), .ref (r 3), .ref (r 4), .ref (r 5), .int 0, .int 0, .int 0, .int 0, .int 0, .long 0, .int 0, .int 0, .int 0, .int (-1), .ref (r 6), .ref (r 7), .ref (r 8), .ref (r 9), .ref (r 10), .ref (r 11), .ref (r 12), .ref (r 13), .int 0, .int 0, .int 0, .ref (r 14), .ref (r 15), .ref (r 16), .ref (r 17), .ref (r 18), .ref (r 19), .ref (r 20), .ref (r 21), .ref (r 22), .ref (r 23), .ref (r 24), .ref (r 25), .ref (r 26), .ref (r 27), .ref (r 28), .ref (r 29), .int 0, .int 0, .int 0, .ref (r 30), .int 0, .int 0, .int 0, .int 0, .int 0, .int 0, .ref (r 31), .int 0, .int 0, .int 0, .ref (r 32), .ref (r 33)])), ((r 6), .inl ((j 4), 5, .inl (fun _ => 0))), ((r 7), .inl ((j 5), 40, .inl (fun _ => 0)))]) hD hS hA [78, 83, 84] rfl
  refine va_calli (va_runV (As := []) (rest := [.int (-2)]) ⟨hx, hb, hml, hown, hts⟩ (f_X12_orders l dC dI H.size ((r 0)) ((r 1)) ((r 2)) ((r 3)) ((r 4)) ((r 5)) ((r 6)) ((r 7)) ((r 8)) ((r 9)) ((r 10)) ((r 11)) ((r 12)) ((r 13)) ((r 14)) ((r 15)) ((r 16)) ((r 17)) ((r 18)) ((r 19)) ((r 20)) ((r 21)) ((r 22)) ((r 23)) ((r 24)) ((r 25)) ((r 26)) ((r 27)) ((r 28)) ((r 29)) ((r 30)) ((r 31)) ((r 32)) ((r 33)) ((j 4)) ((j 5))) (cwV 0 hts (gk_V tw_899 tw_900 tw_901 tw_505 wki_f_X12_orders wkg_f_X12_orders) rfl rfl rfl (by decide +kernel) ⟨Nat.le_of_ble_eq_true rfl, Nat.le_of_ble_eq_true rfl⟩) ⟨fun a U g mk q => by obtain ⟨q0, q1, qP, qK, qD⟩ := q; exact ⟨q0, q1, qP, va_K.moved (u := U) (U := U.calling g mk a) (Vm.Alike.refl U.vm) qK, qD⟩, va_recv hKc hPc (ci := 12) (q0 := 0) rfl rfl, fun U hU hW => ⟨rfl, by rw [hU], by rw [hU]; exact hPc, va_K.moved hW.alike hKc, hDc.weaken (fun _ _ _ _ => trivial)⟩⟩ rfl rfl hl.1 rfl (lv_room (Nat.le_of_ble_eq_true rfl)) dL_law_1180 ⟨Nat.le_of_ble_eq_true rfl, Nat.le_of_ble_eq_true rfl⟩) hS (fun q _ h => hFc q h) hFc (fun oz4 u t H1 locs ht hvm gz3 hB hz1 hk1 hS => ?_)
  generalize H1 = H at hS ⊢
  refine W.widen (k := 305) (n := 4995) (Nat.le_of_ble_eq_true rfl) (Nat.le_of_ble_eq_true rfl) ?_
  obtain rfl := gz3
  refine lv_icmp_eq (tgt := 2293) hx hb dL_law_1183 (by decide) (fun cz5 => ?_) (fun cz5 => ?_)
  · skip
    exact law_end (dC := dC) (dI := dI) (Nat.le_of_eq hL6) C0 A hAe (q 0) (r 0) H locs hS ls hl
  · skip
    exact absurd cz5 (by decide)
set_option maxHeartbeats 4000000 in
set_option maxRecDepth 100000 in
theorem law_case_34 {p : Program} {l : Launch} {e : Env} {s : State} {m : MethodId} {below : List Frame} {meth : Method} {c : Code} {dC : Nat → ClassId} {dI : Nat → Nat → Nat} {b L : Nat} {xs : Nat → Int32} (hL6 : L = 6) (C0 : lw_At p s m meth c b L xs) (A : Nat → Prop) (hAe : A = fun q => s.heap.size ≤ q) (q r : Nat → Nat) (k j : Nat → ClassId) (H : Heap) (locs : List Loc) (hK : va_K (dC, dI) vwCl (tX k ++ tM j) s) (hP : va_P (dC, dI) vwCl (wX q k ++ wM r j) H) (hD : va_D A (wX q k ++ wM r j)) (hS : va_S A s.heap H locs) (ls : Array Slot) (hl : lv_has ls 4 [(0, .ref b), (1, .ref (q 0)), (2, .ref (r 0)), (3, .int 0)]) : W p l e room_1 s m #[Value.ref b] below meth c H locs 305 4995 (lw_Z below #[Value.ref b] s) (F0 m 1188 ls []) := by
  obtain ⟨hx, hb, hr, hml, hown, hts, hX, hbl, hlocks, hgv⟩ := id C0
  have hown : s.vm.findClass RL = some m.cls := hown
  have hA : ∀ q : Nat, s.heap.size ≤ q → A q := by rw [hAe]; exact fun _ h => h
  have hbA : ¬ A b := by rw [hAe]; exact Nat.not_le.mpr hbl
  refine lv_aload_n hx hb dL_law_1188 rfl (lv_at hl 1 rfl) ?_
  have hPc := hP.sub (ws' := [((q 0), .inr (11, [.ref (q 1), .ref (q 2), .ref (q 3), .ref (q 4), .ref (q 5), .ref (q 6), .ref (q 7), .ref (q 8), .ref (q 9), .ref (q 10), .ref (q 11), .ref (q 12), .ref (q 13), .ref (q 14), .ref (q 15)])), ((q 2), .inr (10, [.ref (q 25), .ref (q 26), .ref (q 27), .ref (q 28), .ref (q 29), .ref (q 30), .ref (q 31), .int 0, .int 0, .int 0, .int 0, .int 0, .int 0, .int 0, .int 0, .int 0]))]) [0, 11] rfl
  have hKc := hK.sub (tys' := []) [] rfl
  refine vp_callSi (va_Run.run (va_runV (As := []) (rest := []) ⟨hx, hb, hml, hown, hts⟩ (f_X11_across l dC dI ((q 0)) ((q 1)) ((q 2)) ((q 3)) ((q 4)) ((q 5)) ((q 6)) ((q 7)) ((q 8)) ((q 9)) ((q 10)) ((q 11)) ((q 12)) ((q 13)) ((q 14)) ((q 15)) ((q 25)) ((q 26)) ((q 27)) ((q 28)) ((q 29)) ((q 30)) ((q 31))) (cwV 0 hts (gk_V tw_902 tw_903 tw_904 tw_157 wki_f_X11_across wkg_f_X11_across) rfl rfl rfl (by decide +kernel) ⟨Nat.le_of_ble_eq_true rfl, Nat.le_of_ble_eq_true rfl⟩) ⟨fun a U g mk q => by obtain ⟨q0, qP, qK⟩ := q; exact ⟨q0, qP, va_K.moved (u := U) (U := U.calling g mk a) (Vm.Alike.refl U.vm) qK⟩, va_recv hKc hPc (ci := 11) (q0 := 0) rfl rfl, fun U hU hW => ⟨rfl, by rw [hU]; exact hPc, va_K.moved hW.alike hKc⟩⟩ rfl rfl hl.1 rfl (lv_room (Nat.le_of_ble_eq_true rfl)) dL_law_1189 ⟨Nat.le_of_ble_eq_true rfl, Nat.le_of_ble_eq_true rfl⟩)) (fun oz2 gz1 => ?_)
  obtain rfl := gz1
  refine lv_aload_n hx hb dL_law_1192 rfl (lv_at hl 2 rfl) ?_
  have hPc := hP.sub (ws' := [((r 0), .inr (12, [.int 0, .ref (r 1), .ref (r 2), .ref (r 3), .ref (r 4), .ref (r 5), .int 0, .int 0, .int 0, .int 0, .int 0, .long 0, .int 0, .int 0, .int 0, .int (-1), .ref (r 6), .ref (r 7), .ref (r 8), .ref (r 9), .ref (r 10), .ref (r 11), .ref (r 12), .ref (r 13), .int 0, .int 0, .int 0, .ref (r 14), .ref (r 15), .ref (r 16), .ref (r 17), .ref (r 18), .ref (r 19), .ref (r 20), .ref (r 21), .ref (r 22), .ref (r 23), .ref (r 24), .ref (r 25), .ref (r 26), .ref (r 27), .ref (r 28), .ref (r 29), .int 0, .int 0, .int 0, .ref (r 30), .int 0, .int 0, .int 0, .int 0, .int 0, .int 0, .ref (r 31), .int 0, .int 0, .int 0, .ref (r 32), .ref (r 33)])), ((r 6), .inl ((j 4), 5, .inl (fun _ => 0))), ((r 7), .inl ((j 5), 40, .inl (fun _ => 0)))]) [78, 83, 84] rfl
  have hKc := hK.sub (tys' := [((j 4), .int), ((j 5), .int)]) [60, 61] rfl
  have hDc := hD.sub (ws' := [((r 0), .inr (12, [.int 0, .ref (r 1), .ref (r 2), .ref (r 3), .ref (r 4), .ref (r 5), .int 0, .int 0, .int 0, .int 0, .int 0, .long 0, .int 0, .int 0, .int 0, .int (-1), .ref (r 6), .ref (r 7), .ref (r 8), .ref (r 9), .ref (r 10), .ref (r 11), .ref (r 12), .ref (r 13), .int 0, .int 0, .int 0, .ref (r 14), .ref (r 15), .ref (r 16), .ref (r 17), .ref (r 18), .ref (r 19), .ref (r 20), .ref (r 21), .ref (r 22), .ref (r 23), .ref (r 24), .ref (r 25), .ref (r 26), .ref (r 27), .ref (r 28), .ref (r 29), .int 0, .int 0, .int 0, .ref (r 30), .int 0, .int 0, .int 0, .int 0, .int 0, .int 0, .ref (r 31), .int 0, .int 0, .int 0, .ref (r 32), .ref (r 33)])), ((r 6), .inl ((j 4), 5, .inl (fun _ => 0))), ((r 7), .inl ((j 5), 40, .inl (fun _ => 0)))]) [78, 83, 84] (by decide) rfl
  have hFc := va_free (wc := [((r 0), .inr (12, [.int 0, .ref (r 1), .ref (r 2), .ref (r 3), .ref (r 4), .ref (r 5), .int 0, .int 0, .int 0, .int 0, .int 0, .long 0, .int 0, .int 0, .int 0, .int (-1), .ref (r 6), .ref (r 7), .ref (r 8), .ref (r 9), .ref (r 10), .ref (r 11), .ref (r 12), .ref (r 13), .int 0, .int 0, .int 0, .ref (r 14), .ref (r 15), .ref (r 16), .ref (r 17), .ref (r 18), .ref (r 19), .ref (r 20), .ref (r 21), .ref (r 22), .ref (r 23), .ref (r 24), .ref (r 25), .ref (r 26), .ref (r 27), .ref (r 28), .ref (r 29), .int 0, .int 0, .int 0, .ref (r 30), .int 0, .int 0, .int 0, .int 0, .int 0, .int 0, .ref (r 31), .int 0, .int 0, .int 0, .ref (r 32), .ref (r 33)])), ((r 6), .inl ((j 4), 5, .inl (fun _ => 0))), ((r 7), .inl ((j 5), 40, .inl (fun _ => 0)))]) hD hS hA [78, 83, 84] rfl
  refine va_calli (va_runV (As := []) (rest := [.int (-2)]) ⟨hx, hb, hml, hown, hts⟩ (f_X12_across l dC dI H.size ((r 0)) ((r 1)) ((r 2)) ((r 3)) ((r 4)) ((r 5)) ((r 6)) ((r 7)) ((r 8)) ((r 9)) ((r 10)) ((r 11)) ((r 12)) ((r 13)) ((r 14)) ((r 15)) ((r 16)) ((r 17)) ((r 18)) ((r 19)) ((r 20)) ((r 21)) ((r 22)) ((r 23)) ((r 24)) ((r 25)) ((r 26)) ((r 27)) ((r 28)) ((r 29)) ((r 30)) ((r 31)) ((r 32)) ((r 33)) ((j 4)) ((j 5))) (cwV 0 hts (gk_V tw_905 tw_906 tw_907 tw_505 wki_f_X12_across wkg_f_X12_across) rfl rfl rfl (by decide +kernel) ⟨Nat.le_of_ble_eq_true rfl, Nat.le_of_ble_eq_true rfl⟩) ⟨fun a U g mk q => by obtain ⟨q0, q1, qP, qK, qD⟩ := q; exact ⟨q0, q1, qP, va_K.moved (u := U) (U := U.calling g mk a) (Vm.Alike.refl U.vm) qK, qD⟩, va_recv hKc hPc (ci := 12) (q0 := 0) rfl rfl, fun U hU hW => ⟨rfl, by rw [hU], by rw [hU]; exact hPc, va_K.moved hW.alike hKc, hDc.weaken (fun _ _ _ _ => trivial)⟩⟩ rfl rfl hl.1 rfl (lv_room (Nat.le_of_ble_eq_true rfl)) dL_law_1193 ⟨Nat.le_of_ble_eq_true rfl, Nat.le_of_ble_eq_true rfl⟩) hS (fun q _ h => hFc q h) hFc (fun oz4 u t H1 locs ht hvm gz3 hB hz1 hk1 hS => ?_)
  generalize H1 = H at hS ⊢
  refine W.widen (k := 305) (n := 4995) (Nat.le_of_ble_eq_true rfl) (Nat.le_of_ble_eq_true rfl) ?_
  obtain rfl := gz3
  refine lv_icmp_eq (tgt := 2293) hx hb dL_law_1196 (by decide) (fun cz5 => ?_) (fun cz5 => ?_)
  · skip
    exact law_end (dC := dC) (dI := dI) (Nat.le_of_eq hL6) C0 A hAe (q 0) (r 0) H locs hS ls hl
  · skip
    exact absurd cz5 (by decide)
set_option maxHeartbeats 4000000 in
set_option maxRecDepth 100000 in
theorem law_case_35 {p : Program} {l : Launch} {e : Env} {s : State} {m : MethodId} {below : List Frame} {meth : Method} {c : Code} {dC : Nat → ClassId} {dI : Nat → Nat → Nat} {b L : Nat} {xs : Nat → Int32} (hL6 : L = 6) (C0 : lw_At p s m meth c b L xs) (A : Nat → Prop) (hAe : A = fun q => s.heap.size ≤ q) (q r : Nat → Nat) (k j : Nat → ClassId) (H : Heap) (locs : List Loc) (hK : va_K (dC, dI) vwCl (tX k ++ tM j) s) (hP : va_P (dC, dI) vwCl (wX q k ++ wM r j) H) (hD : va_D A (wX q k ++ wM r j)) (hS : va_S A s.heap H locs) (ls : Array Slot) (hl : lv_has ls 4 [(0, .ref b), (1, .ref (q 0)), (2, .ref (r 0)), (3, .int 0)]) : W p l e room_1 s m #[Value.ref b] below meth c H locs 305 4995 (lw_Z below #[Value.ref b] s) (F0 m 1201 ls []) := by
  obtain ⟨hx, hb, hr, hml, hown, hts, hX, hbl, hlocks, hgv⟩ := id C0
  have hown : s.vm.findClass RL = some m.cls := hown
  have hA : ∀ q : Nat, s.heap.size ≤ q → A q := by rw [hAe]; exact fun _ h => h
  have hbA : ¬ A b := by rw [hAe]; exact Nat.not_le.mpr hbl
  refine lv_aload_n hx hb dL_law_1201 rfl (lv_at hl 1 rfl) ?_
  have hPc := hP.sub (ws' := [((q 0), .inr (11, [.ref (q 1), .ref (q 2), .ref (q 3), .ref (q 4), .ref (q 5), .ref (q 6), .ref (q 7), .ref (q 8), .ref (q 9), .ref (q 10), .ref (q 11), .ref (q 12), .ref (q 13), .ref (q 14), .ref (q 15)])), ((q 2), .inr (10, [.ref (q 25), .ref (q 26), .ref (q 27), .ref (q 28), .ref (q 29), .ref (q 30), .ref (q 31), .int 0, .int 0, .int 0, .int 0, .int 0, .int 0, .int 0, .int 0, .int 0]))]) [0, 11] rfl
  have hKc := hK.sub (tys' := []) [] rfl
  refine vp_callSi (va_Run.run (va_runV (As := []) (rest := []) ⟨hx, hb, hml, hown, hts⟩ (f_X11_routes l dC dI ((q 0)) ((q 1)) ((q 2)) ((q 3)) ((q 4)) ((q 5)) ((q 6)) ((q 7)) ((q 8)) ((q 9)) ((q 10)) ((q 11)) ((q 12)) ((q 13)) ((q 14)) ((q 15)) ((q 25)) ((q 26)) ((q 27)) ((q 28)) ((q 29)) ((q 30)) ((q 31))) (cwV 0 hts (gk_V tw_908 tw_909 tw_910 tw_157 wki_f_X11_routes wkg_f_X11_routes) rfl rfl rfl (by decide +kernel) ⟨Nat.le_of_ble_eq_true rfl, Nat.le_of_ble_eq_true rfl⟩) ⟨fun a U g mk q => by obtain ⟨q0, qP, qK⟩ := q; exact ⟨q0, qP, va_K.moved (u := U) (U := U.calling g mk a) (Vm.Alike.refl U.vm) qK⟩, va_recv hKc hPc (ci := 11) (q0 := 0) rfl rfl, fun U hU hW => ⟨rfl, by rw [hU]; exact hPc, va_K.moved hW.alike hKc⟩⟩ rfl rfl hl.1 rfl (lv_room (Nat.le_of_ble_eq_true rfl)) dL_law_1202 ⟨Nat.le_of_ble_eq_true rfl, Nat.le_of_ble_eq_true rfl⟩)) (fun oz2 gz1 => ?_)
  obtain rfl := gz1
  refine lv_aload_n hx hb dL_law_1205 rfl (lv_at hl 2 rfl) ?_
  have hPc := hP.sub (ws' := [((r 0), .inr (12, [.int 0, .ref (r 1), .ref (r 2), .ref (r 3), .ref (r 4), .ref (r 5), .int 0, .int 0, .int 0, .int 0, .int 0, .long 0, .int 0, .int 0, .int 0, .int (-1), .ref (r 6), .ref (r 7), .ref (r 8), .ref (r 9), .ref (r 10), .ref (r 11), .ref (r 12), .ref (r 13), .int 0, .int 0, .int 0, .ref (r 14), .ref (r 15), .ref (r 16), .ref (r 17), .ref (r 18), .ref (r 19), .ref (r 20), .ref (r 21), .ref (r 22), .ref (r 23), .ref (r 24), .ref (r 25), .ref (r 26), .ref (r 27), .ref (r 28), .ref (r 29), .int 0, .int 0, .int 0, .ref (r 30), .int 0, .int 0, .int 0, .int 0, .int 0, .int 0, .ref (r 31), .int 0, .int 0, .int 0, .ref (r 32), .ref (r 33)])), ((r 6), .inl ((j 4), 5, .inl (fun _ => 0))), ((r 7), .inl ((j 5), 40, .inl (fun _ => 0)))]) [78, 83, 84] rfl
  have hKc := hK.sub (tys' := [((j 4), .int), ((j 5), .int)]) [60, 61] rfl
  have hDc := hD.sub (ws' := [((r 0), .inr (12, [.int 0, .ref (r 1), .ref (r 2), .ref (r 3), .ref (r 4), .ref (r 5), .int 0, .int 0, .int 0, .int 0, .int 0, .long 0, .int 0, .int 0, .int 0, .int (-1), .ref (r 6), .ref (r 7), .ref (r 8), .ref (r 9), .ref (r 10), .ref (r 11), .ref (r 12), .ref (r 13), .int 0, .int 0, .int 0, .ref (r 14), .ref (r 15), .ref (r 16), .ref (r 17), .ref (r 18), .ref (r 19), .ref (r 20), .ref (r 21), .ref (r 22), .ref (r 23), .ref (r 24), .ref (r 25), .ref (r 26), .ref (r 27), .ref (r 28), .ref (r 29), .int 0, .int 0, .int 0, .ref (r 30), .int 0, .int 0, .int 0, .int 0, .int 0, .int 0, .ref (r 31), .int 0, .int 0, .int 0, .ref (r 32), .ref (r 33)])), ((r 6), .inl ((j 4), 5, .inl (fun _ => 0))), ((r 7), .inl ((j 5), 40, .inl (fun _ => 0)))]) [78, 83, 84] (by decide) rfl
  have hFc := va_free (wc := [((r 0), .inr (12, [.int 0, .ref (r 1), .ref (r 2), .ref (r 3), .ref (r 4), .ref (r 5), .int 0, .int 0, .int 0, .int 0, .int 0, .long 0, .int 0, .int 0, .int 0, .int (-1), .ref (r 6), .ref (r 7), .ref (r 8), .ref (r 9), .ref (r 10), .ref (r 11), .ref (r 12), .ref (r 13), .int 0, .int 0, .int 0, .ref (r 14), .ref (r 15), .ref (r 16), .ref (r 17), .ref (r 18), .ref (r 19), .ref (r 20), .ref (r 21), .ref (r 22), .ref (r 23), .ref (r 24), .ref (r 25), .ref (r 26), .ref (r 27), .ref (r 28), .ref (r 29), .int 0, .int 0, .int 0, .ref (r 30), .int 0, .int 0, .int 0, .int 0, .int 0, .int 0, .ref (r 31), .int 0, .int 0, .int 0, .ref (r 32), .ref (r 33)])), ((r 6), .inl ((j 4), 5, .inl (fun _ => 0))), ((r 7), .inl ((j 5), 40, .inl (fun _ => 0)))]) hD hS hA [78, 83, 84] rfl
  refine va_calli (va_runV (As := []) (rest := [.int (-2)]) ⟨hx, hb, hml, hown, hts⟩ (f_X12_routes l dC dI H.size ((r 0)) ((r 1)) ((r 2)) ((r 3)) ((r 4)) ((r 5)) ((r 6)) ((r 7)) ((r 8)) ((r 9)) ((r 10)) ((r 11)) ((r 12)) ((r 13)) ((r 14)) ((r 15)) ((r 16)) ((r 17)) ((r 18)) ((r 19)) ((r 20)) ((r 21)) ((r 22)) ((r 23)) ((r 24)) ((r 25)) ((r 26)) ((r 27)) ((r 28)) ((r 29)) ((r 30)) ((r 31)) ((r 32)) ((r 33)) ((j 4)) ((j 5))) (cwV 0 hts (gk_V tw_911 tw_912 tw_913 tw_505 wki_f_X12_routes wkg_f_X12_routes) rfl rfl rfl (by decide +kernel) ⟨Nat.le_of_ble_eq_true rfl, Nat.le_of_ble_eq_true rfl⟩) ⟨fun a U g mk q => by obtain ⟨q0, q1, qP, qK, qD⟩ := q; exact ⟨q0, q1, qP, va_K.moved (u := U) (U := U.calling g mk a) (Vm.Alike.refl U.vm) qK, qD⟩, va_recv hKc hPc (ci := 12) (q0 := 0) rfl rfl, fun U hU hW => ⟨rfl, by rw [hU], by rw [hU]; exact hPc, va_K.moved hW.alike hKc, hDc.weaken (fun _ _ _ _ => trivial)⟩⟩ rfl rfl hl.1 rfl (lv_room (Nat.le_of_ble_eq_true rfl)) dL_law_1206 ⟨Nat.le_of_ble_eq_true rfl, Nat.le_of_ble_eq_true rfl⟩) hS (fun q _ h => hFc q h) hFc (fun oz4 u t H1 locs ht hvm gz3 hB hz1 hk1 hS => ?_)
  generalize H1 = H at hS ⊢
  refine W.widen (k := 305) (n := 4995) (Nat.le_of_ble_eq_true rfl) (Nat.le_of_ble_eq_true rfl) ?_
  obtain rfl := gz3
  refine lv_icmp_eq (tgt := 2293) hx hb dL_law_1209 (by decide) (fun cz5 => ?_) (fun cz5 => ?_)
  · skip
    exact law_end (dC := dC) (dI := dI) (Nat.le_of_eq hL6) C0 A hAe (q 0) (r 0) H locs hS ls hl
  · skip
    exact absurd cz5 (by decide)
set_option maxHeartbeats 4000000 in
set_option maxRecDepth 100000 in
theorem law_case_36 {p : Program} {l : Launch} {e : Env} {s : State} {m : MethodId} {below : List Frame} {meth : Method} {c : Code} {dC : Nat → ClassId} {dI : Nat → Nat → Nat} {b L : Nat} {xs : Nat → Int32} (hL6 : L = 6) (C0 : lw_At p s m meth c b L xs) (A : Nat → Prop) (hAe : A = fun q => s.heap.size ≤ q) (q r : Nat → Nat) (k j : Nat → ClassId) (H : Heap) (locs : List Loc) (hK : va_K (dC, dI) vwCl (tX k ++ tM j) s) (hP : va_P (dC, dI) vwCl (wX q k ++ wM r j) H) (hD : va_D A (wX q k ++ wM r j)) (hS : va_S A s.heap H locs) (ls : Array Slot) (hl : lv_has ls 4 [(0, .ref b), (1, .ref (q 0)), (2, .ref (r 0)), (3, .int 0)]) : W p l e room_1 s m #[Value.ref b] below meth c H locs 305 4995 (lw_Z below #[Value.ref b] s) (F0 m 1214 ls []) := by
  obtain ⟨hx, hb, hr, hml, hown, hts, hX, hbl, hlocks, hgv⟩ := id C0
  have hown : s.vm.findClass RL = some m.cls := hown
  have hA : ∀ q : Nat, s.heap.size ≤ q → A q := by rw [hAe]; exact fun _ h => h
  have hbA : ¬ A b := by rw [hAe]; exact Nat.not_le.mpr hbl
  refine lv_aload_n hx hb dL_law_1214 rfl (lv_at hl 1 rfl) ?_
  refine lv_aload_n hx hb dL_law_1215 rfl (lv_at hl 0 rfl) ?_
  refine lv_iload_n hx hb dL_law_1216 rfl (lv_at hl 3 rfl) ?_
  refine lv_iconst (v := 1) hx hb dL_law_1217 (by decide) ?_
  refine lv_iadd hx hb dL_law_1218 ?_
  refine lv_topi (fun xz1 exz1 => ?_)
  obtain rfl : xz1 = 1 := exz1.trans (by decide)
  refine va_sld hx hb hX hbl hbA hS (by rw [hL6]; unfold vp_in; decide) dL_law_1219 ?_
  refine W.eq (g2 := F0 m 1220 ls [.int (xs 1), .ref (q 0)]) rfl ?_
  have hPc := hP.sub (ws' := [((q 0), .inr (11, [.ref (q 1), .ref (q 2), .ref (q 3), .ref (q 4), .ref (q 5), .ref (q 6), .ref (q 7), .ref (q 8), .ref (q 9), .ref (q 10), .ref (q 11), .ref (q 12), .ref (q 13), .ref (q 14), .ref (q 15)])), ((q 2), .inr (10, [.ref (q 25), .ref (q 26), .ref (q 27), .ref (q 28), .ref (q 29), .ref (q 30), .ref (q 31), .int 0, .int 0, .int 0, .int 0, .int 0, .int 0, .int 0, .int 0, .int 0]))]) [0, 11] rfl
  have hKc := hK.sub (tys' := []) [] rfl
  refine vp_callSi (va_Run.run (va_runV (As := [.int (xs 1)]) (rest := []) ⟨hx, hb, hml, hown, hts⟩ (f_X11_route l dC dI ((q 0)) ((q 1)) ((q 2)) ((q 3)) ((q 4)) ((q 5)) ((q 6)) ((q 7)) ((q 8)) ((q 9)) ((q 10)) ((q 11)) ((q 12)) ((q 13)) ((q 14)) ((q 15)) ((q 25)) ((q 26)) ((q 27)) ((q 28)) ((q 29)) ((q 30)) ((q 31)) ((xs 1))) (cwV 1 hts (gk_V tw_914 tw_915 tw_916 tw_157 wki_f_X11_route wkg_f_X11_route) rfl rfl rfl (by decide +kernel) ⟨Nat.le_of_ble_eq_true rfl, Nat.le_of_ble_eq_true rfl⟩) ⟨fun a U g mk q => by obtain ⟨q0, qP, qK⟩ := q; exact ⟨q0, qP, va_K.moved (u := U) (U := U.calling g mk a) (Vm.Alike.refl U.vm) qK⟩, va_recv hKc hPc (ci := 11) (q0 := 0) rfl rfl, fun U hU hW => ⟨rfl, by rw [hU]; exact hPc, va_K.moved hW.alike hKc⟩⟩ rfl rfl hl.1 rfl (lv_room (Nat.le_of_ble_eq_true rfl)) dL_law_1220 ⟨Nat.le_of_ble_eq_true rfl, Nat.le_of_ble_eq_true rfl⟩)) (fun oz3 gz2 => ?_)
  obtain rfl := gz2
  refine lv_aload_n hx hb dL_law_1223 rfl (lv_at hl 2 rfl) ?_
  refine lv_aload_n hx hb dL_law_1224 rfl (lv_at hl 0 rfl) ?_
  refine lv_iload_n hx hb dL_law_1225 rfl (lv_at hl 3 rfl) ?_
  refine lv_iconst (v := 1) hx hb dL_law_1226 (by decide) ?_
  refine lv_iadd hx hb dL_law_1227 ?_
  refine lv_topi (fun xz4 exz4 => ?_)
  obtain rfl : xz4 = 1 := exz4.trans (by decide)
  refine va_sld hx hb hX hbl hbA hS (by rw [hL6]; unfold vp_in; decide) dL_law_1228 ?_
  refine W.eq (g2 := F0 m 1229 ls [.int (xs 1), .ref (r 0), .int (-2)]) rfl ?_
  have hPc := hP.sub (ws' := [((r 0), .inr (12, [.int 0, .ref (r 1), .ref (r 2), .ref (r 3), .ref (r 4), .ref (r 5), .int 0, .int 0, .int 0, .int 0, .int 0, .long 0, .int 0, .int 0, .int 0, .int (-1), .ref (r 6), .ref (r 7), .ref (r 8), .ref (r 9), .ref (r 10), .ref (r 11), .ref (r 12), .ref (r 13), .int 0, .int 0, .int 0, .ref (r 14), .ref (r 15), .ref (r 16), .ref (r 17), .ref (r 18), .ref (r 19), .ref (r 20), .ref (r 21), .ref (r 22), .ref (r 23), .ref (r 24), .ref (r 25), .ref (r 26), .ref (r 27), .ref (r 28), .ref (r 29), .int 0, .int 0, .int 0, .ref (r 30), .int 0, .int 0, .int 0, .int 0, .int 0, .int 0, .ref (r 31), .int 0, .int 0, .int 0, .ref (r 32), .ref (r 33)])), ((r 6), .inl ((j 4), 5, .inl (fun _ => 0))), ((r 7), .inl ((j 5), 40, .inl (fun _ => 0)))]) [78, 83, 84] rfl
  have hKc := hK.sub (tys' := [((j 4), .int), ((j 5), .int)]) [60, 61] rfl
  have hDc := hD.sub (ws' := [((r 0), .inr (12, [.int 0, .ref (r 1), .ref (r 2), .ref (r 3), .ref (r 4), .ref (r 5), .int 0, .int 0, .int 0, .int 0, .int 0, .long 0, .int 0, .int 0, .int 0, .int (-1), .ref (r 6), .ref (r 7), .ref (r 8), .ref (r 9), .ref (r 10), .ref (r 11), .ref (r 12), .ref (r 13), .int 0, .int 0, .int 0, .ref (r 14), .ref (r 15), .ref (r 16), .ref (r 17), .ref (r 18), .ref (r 19), .ref (r 20), .ref (r 21), .ref (r 22), .ref (r 23), .ref (r 24), .ref (r 25), .ref (r 26), .ref (r 27), .ref (r 28), .ref (r 29), .int 0, .int 0, .int 0, .ref (r 30), .int 0, .int 0, .int 0, .int 0, .int 0, .int 0, .ref (r 31), .int 0, .int 0, .int 0, .ref (r 32), .ref (r 33)])), ((r 6), .inl ((j 4), 5, .inl (fun _ => 0))), ((r 7), .inl ((j 5), 40, .inl (fun _ => 0)))]) [78, 83, 84] (by decide) rfl
  have hFc := va_free (wc := [((r 0), .inr (12, [.int 0, .ref (r 1), .ref (r 2), .ref (r 3), .ref (r 4), .ref (r 5), .int 0, .int 0, .int 0, .int 0, .int 0, .long 0, .int 0, .int 0, .int 0, .int (-1), .ref (r 6), .ref (r 7), .ref (r 8), .ref (r 9), .ref (r 10), .ref (r 11), .ref (r 12), .ref (r 13), .int 0, .int 0, .int 0, .ref (r 14), .ref (r 15), .ref (r 16), .ref (r 17), .ref (r 18), .ref (r 19), .ref (r 20), .ref (r 21), .ref (r 22), .ref (r 23), .ref (r 24), .ref (r 25), .ref (r 26), .ref (r 27), .ref (r 28), .ref (r 29), .int 0, .int 0, .int 0, .ref (r 30), .int 0, .int 0, .int 0, .int 0, .int 0, .int 0, .ref (r 31), .int 0, .int 0, .int 0, .ref (r 32), .ref (r 33)])), ((r 6), .inl ((j 4), 5, .inl (fun _ => 0))), ((r 7), .inl ((j 5), 40, .inl (fun _ => 0)))]) hD hS hA [78, 83, 84] rfl
  refine va_calli (va_runV (As := [.int (xs 1)]) (rest := [.int (-2)]) ⟨hx, hb, hml, hown, hts⟩ (f_X12_route l dC dI H.size ((r 0)) ((r 1)) ((r 2)) ((r 3)) ((r 4)) ((r 5)) ((r 6)) ((r 7)) ((r 8)) ((r 9)) ((r 10)) ((r 11)) ((r 12)) ((r 13)) ((r 14)) ((r 15)) ((r 16)) ((r 17)) ((r 18)) ((r 19)) ((r 20)) ((r 21)) ((r 22)) ((r 23)) ((r 24)) ((r 25)) ((r 26)) ((r 27)) ((r 28)) ((r 29)) ((r 30)) ((r 31)) ((r 32)) ((r 33)) ((j 4)) ((j 5)) ((xs 1))) (cwV 1 hts (gk_V tw_917 tw_918 tw_919 tw_505 wki_f_X12_route wkg_f_X12_route) rfl rfl rfl (by decide +kernel) ⟨Nat.le_of_ble_eq_true rfl, Nat.le_of_ble_eq_true rfl⟩) ⟨fun a U g mk q => by obtain ⟨q0, q1, qP, qK, qD⟩ := q; exact ⟨q0, q1, qP, va_K.moved (u := U) (U := U.calling g mk a) (Vm.Alike.refl U.vm) qK, qD⟩, va_recv hKc hPc (ci := 12) (q0 := 0) rfl rfl, fun U hU hW => ⟨rfl, by rw [hU], by rw [hU]; exact hPc, va_K.moved hW.alike hKc, hDc.weaken (fun _ _ _ _ => trivial)⟩⟩ rfl rfl hl.1 rfl (lv_room (Nat.le_of_ble_eq_true rfl)) dL_law_1229 ⟨Nat.le_of_ble_eq_true rfl, Nat.le_of_ble_eq_true rfl⟩) hS (fun q _ h => hFc q h) hFc (fun oz6 u t H1 locs ht hvm gz5 hB hz1 hk1 hS => ?_)
  generalize H1 = H at hS ⊢
  refine W.widen (k := 305) (n := 4995) (Nat.le_of_ble_eq_true rfl) (Nat.le_of_ble_eq_true rfl) ?_
  obtain rfl := gz5
  refine lv_icmp_eq (tgt := 2293) hx hb dL_law_1232 (by decide) (fun cz7 => ?_) (fun cz7 => ?_)
  · skip
    exact law_end (dC := dC) (dI := dI) (Nat.le_of_eq hL6) C0 A hAe (q 0) (r 0) H locs hS ls hl
  · skip
    exact absurd cz7 (by decide)
set_option maxHeartbeats 4000000 in
set_option maxRecDepth 100000 in
theorem law_case_37 {p : Program} {l : Launch} {e : Env} {s : State} {m : MethodId} {below : List Frame} {meth : Method} {c : Code} {dC : Nat → ClassId} {dI : Nat → Nat → Nat} {b L : Nat} {xs : Nat → Int32} (hL6 : L = 6) (C0 : lw_At p s m meth c b L xs) (A : Nat → Prop) (hAe : A = fun q => s.heap.size ≤ q) (q r : Nat → Nat) (k j : Nat → ClassId) (H : Heap) (locs : List Loc) (hK : va_K (dC, dI) vwCl (tX k ++ tM j) s) (hP : va_P (dC, dI) vwCl (wX q k ++ wM r j) H) (hD : va_D A (wX q k ++ wM r j)) (hS : va_S A s.heap H locs) (ls : Array Slot) (hl : lv_has ls 4 [(0, .ref b), (1, .ref (q 0)), (2, .ref (r 0)), (3, .int 0)]) : W p l e room_1 s m #[Value.ref b] below meth c H locs 305 4995 (lw_Z below #[Value.ref b] s) (F0 m 1237 ls []) := by
  obtain ⟨hx, hb, hr, hml, hown, hts, hX, hbl, hlocks, hgv⟩ := id C0
  have hown : s.vm.findClass RL = some m.cls := hown
  have hA : ∀ q : Nat, s.heap.size ≤ q → A q := by rw [hAe]; exact fun _ h => h
  have hbA : ¬ A b := by rw [hAe]; exact Nat.not_le.mpr hbl
  refine lv_aload_n hx hb dL_law_1237 rfl (lv_at hl 1 rfl) ?_
  have hPc := hP.sub (ws' := [((q 0), .inr (11, [.ref (q 1), .ref (q 2), .ref (q 3), .ref (q 4), .ref (q 5), .ref (q 6), .ref (q 7), .ref (q 8), .ref (q 9), .ref (q 10), .ref (q 11), .ref (q 12), .ref (q 13), .ref (q 14), .ref (q 15)])), ((q 2), .inr (10, [.ref (q 25), .ref (q 26), .ref (q 27), .ref (q 28), .ref (q 29), .ref (q 30), .ref (q 31), .int 0, .int 0, .int 0, .int 0, .int 0, .int 0, .int 0, .int 0, .int 0]))]) [0, 11] rfl
  have hKc := hK.sub (tys' := []) [] rfl
  refine vp_callSi (va_Run.run (va_runV (As := []) (rest := []) ⟨hx, hb, hml, hown, hts⟩ (f_X11_safe l dC dI ((q 0)) ((q 1)) ((q 2)) ((q 3)) ((q 4)) ((q 5)) ((q 6)) ((q 7)) ((q 8)) ((q 9)) ((q 10)) ((q 11)) ((q 12)) ((q 13)) ((q 14)) ((q 15)) ((q 25)) ((q 26)) ((q 27)) ((q 28)) ((q 29)) ((q 30)) ((q 31))) (cwV 0 hts (gk_V tw_920 tw_921 tw_922 tw_157 wki_f_X11_safe wkg_f_X11_safe) rfl rfl rfl (by decide +kernel) ⟨Nat.le_of_ble_eq_true rfl, Nat.le_of_ble_eq_true rfl⟩) ⟨fun a U g mk q => by obtain ⟨q0, qP, qK⟩ := q; exact ⟨q0, qP, va_K.moved (u := U) (U := U.calling g mk a) (Vm.Alike.refl U.vm) qK⟩, va_recv hKc hPc (ci := 11) (q0 := 0) rfl rfl, fun U hU hW => ⟨rfl, by rw [hU]; exact hPc, va_K.moved hW.alike hKc⟩⟩ rfl rfl hl.1 rfl (lv_room (Nat.le_of_ble_eq_true rfl)) dL_law_1238 ⟨Nat.le_of_ble_eq_true rfl, Nat.le_of_ble_eq_true rfl⟩)) (fun oz2 gz1 => ?_)
  obtain rfl := gz1
  refine lv_aload_n hx hb dL_law_1241 rfl (lv_at hl 2 rfl) ?_
  have hPc := hP.sub (ws' := [((r 0), .inr (12, [.int 0, .ref (r 1), .ref (r 2), .ref (r 3), .ref (r 4), .ref (r 5), .int 0, .int 0, .int 0, .int 0, .int 0, .long 0, .int 0, .int 0, .int 0, .int (-1), .ref (r 6), .ref (r 7), .ref (r 8), .ref (r 9), .ref (r 10), .ref (r 11), .ref (r 12), .ref (r 13), .int 0, .int 0, .int 0, .ref (r 14), .ref (r 15), .ref (r 16), .ref (r 17), .ref (r 18), .ref (r 19), .ref (r 20), .ref (r 21), .ref (r 22), .ref (r 23), .ref (r 24), .ref (r 25), .ref (r 26), .ref (r 27), .ref (r 28), .ref (r 29), .int 0, .int 0, .int 0, .ref (r 30), .int 0, .int 0, .int 0, .int 0, .int 0, .int 0, .ref (r 31), .int 0, .int 0, .int 0, .ref (r 32), .ref (r 33)])), ((r 6), .inl ((j 4), 5, .inl (fun _ => 0))), ((r 7), .inl ((j 5), 40, .inl (fun _ => 0)))]) [78, 83, 84] rfl
  have hKc := hK.sub (tys' := [((j 4), .int), ((j 5), .int)]) [60, 61] rfl
  have hDc := hD.sub (ws' := [((r 0), .inr (12, [.int 0, .ref (r 1), .ref (r 2), .ref (r 3), .ref (r 4), .ref (r 5), .int 0, .int 0, .int 0, .int 0, .int 0, .long 0, .int 0, .int 0, .int 0, .int (-1), .ref (r 6), .ref (r 7), .ref (r 8), .ref (r 9), .ref (r 10), .ref (r 11), .ref (r 12), .ref (r 13), .int 0, .int 0, .int 0, .ref (r 14), .ref (r 15), .ref (r 16), .ref (r 17), .ref (r 18), .ref (r 19), .ref (r 20), .ref (r 21), .ref (r 22), .ref (r 23), .ref (r 24), .ref (r 25), .ref (r 26), .ref (r 27), .ref (r 28), .ref (r 29), .int 0, .int 0, .int 0, .ref (r 30), .int 0, .int 0, .int 0, .int 0, .int 0, .int 0, .ref (r 31), .int 0, .int 0, .int 0, .ref (r 32), .ref (r 33)])), ((r 6), .inl ((j 4), 5, .inl (fun _ => 0))), ((r 7), .inl ((j 5), 40, .inl (fun _ => 0)))]) [78, 83, 84] (by decide) rfl
  have hFc := va_free (wc := [((r 0), .inr (12, [.int 0, .ref (r 1), .ref (r 2), .ref (r 3), .ref (r 4), .ref (r 5), .int 0, .int 0, .int 0, .int 0, .int 0, .long 0, .int 0, .int 0, .int 0, .int (-1), .ref (r 6), .ref (r 7), .ref (r 8), .ref (r 9), .ref (r 10), .ref (r 11), .ref (r 12), .ref (r 13), .int 0, .int 0, .int 0, .ref (r 14), .ref (r 15), .ref (r 16), .ref (r 17), .ref (r 18), .ref (r 19), .ref (r 20), .ref (r 21), .ref (r 22), .ref (r 23), .ref (r 24), .ref (r 25), .ref (r 26), .ref (r 27), .ref (r 28), .ref (r 29), .int 0, .int 0, .int 0, .ref (r 30), .int 0, .int 0, .int 0, .int 0, .int 0, .int 0, .ref (r 31), .int 0, .int 0, .int 0, .ref (r 32), .ref (r 33)])), ((r 6), .inl ((j 4), 5, .inl (fun _ => 0))), ((r 7), .inl ((j 5), 40, .inl (fun _ => 0)))]) hD hS hA [78, 83, 84] rfl
  refine va_calli (va_runV (As := []) (rest := [.int (-2)]) ⟨hx, hb, hml, hown, hts⟩ (f_X12_safe l dC dI H.size ((r 0)) ((r 1)) ((r 2)) ((r 3)) ((r 4)) ((r 5)) ((r 6)) ((r 7)) ((r 8)) ((r 9)) ((r 10)) ((r 11)) ((r 12)) ((r 13)) ((r 14)) ((r 15)) ((r 16)) ((r 17)) ((r 18)) ((r 19)) ((r 20)) ((r 21)) ((r 22)) ((r 23)) ((r 24)) ((r 25)) ((r 26)) ((r 27)) ((r 28)) ((r 29)) ((r 30)) ((r 31)) ((r 32)) ((r 33)) ((j 4)) ((j 5))) (cwV 0 hts (gk_V tw_923 tw_924 tw_925 tw_505 wki_f_X12_safe wkg_f_X12_safe) rfl rfl rfl (by decide +kernel) ⟨Nat.le_of_ble_eq_true rfl, Nat.le_of_ble_eq_true rfl⟩) ⟨fun a U g mk q => by obtain ⟨q0, q1, qP, qK, qD⟩ := q; exact ⟨q0, q1, qP, va_K.moved (u := U) (U := U.calling g mk a) (Vm.Alike.refl U.vm) qK, qD⟩, va_recv hKc hPc (ci := 12) (q0 := 0) rfl rfl, fun U hU hW => ⟨rfl, by rw [hU], by rw [hU]; exact hPc, va_K.moved hW.alike hKc, hDc.weaken (fun _ _ _ _ => trivial)⟩⟩ rfl rfl hl.1 rfl (lv_room (Nat.le_of_ble_eq_true rfl)) dL_law_1242 ⟨Nat.le_of_ble_eq_true rfl, Nat.le_of_ble_eq_true rfl⟩) hS (fun q _ h => hFc q h) hFc (fun oz4 u t H1 locs ht hvm gz3 hB hz1 hk1 hS => ?_)
  generalize H1 = H at hS ⊢
  refine W.widen (k := 305) (n := 4995) (Nat.le_of_ble_eq_true rfl) (Nat.le_of_ble_eq_true rfl) ?_
  obtain rfl := gz3
  refine lv_icmp_eq (tgt := 2293) hx hb dL_law_1245 (by decide) (fun cz5 => ?_) (fun cz5 => ?_)
  · skip
    exact law_end (dC := dC) (dI := dI) (Nat.le_of_eq hL6) C0 A hAe (q 0) (r 0) H locs hS ls hl
  · skip
    exact absurd cz5 (by decide)
set_option maxHeartbeats 4000000 in
set_option maxRecDepth 100000 in
theorem law_case_38 {p : Program} {l : Launch} {e : Env} {s : State} {m : MethodId} {below : List Frame} {meth : Method} {c : Code} {dC : Nat → ClassId} {dI : Nat → Nat → Nat} {b L : Nat} {xs : Nat → Int32} (hL6 : L = 6) (C0 : lw_At p s m meth c b L xs) (A : Nat → Prop) (hAe : A = fun q => s.heap.size ≤ q) (q r : Nat → Nat) (k j : Nat → ClassId) (H : Heap) (locs : List Loc) (hK : va_K (dC, dI) vwCl (tX k ++ tM j) s) (hP : va_P (dC, dI) vwCl (wX q k ++ wM r j) H) (hD : va_D A (wX q k ++ wM r j)) (hS : va_S A s.heap H locs) (ls : Array Slot) (hl : lv_has ls 4 [(0, .ref b), (1, .ref (q 0)), (2, .ref (r 0)), (3, .int 0)]) : W p l e room_1 s m #[Value.ref b] below meth c H locs 305 4995 (lw_Z below #[Value.ref b] s) (F0 m 1250 ls []) := by
  obtain ⟨hx, hb, hr, hml, hown, hts, hX, hbl, hlocks, hgv⟩ := id C0
  have hown : s.vm.findClass RL = some m.cls := hown
  have hA : ∀ q : Nat, s.heap.size ≤ q → A q := by rw [hAe]; exact fun _ h => h
  have hbA : ¬ A b := by rw [hAe]; exact Nat.not_le.mpr hbl
  refine lv_aload_n hx hb dL_law_1250 rfl (lv_at hl 1 rfl) ?_
  refine lv_aload_n hx hb dL_law_1251 rfl (lv_at hl 0 rfl) ?_
  refine lv_iload_n hx hb dL_law_1252 rfl (lv_at hl 3 rfl) ?_
  refine lv_iconst (v := 1) hx hb dL_law_1253 (by decide) ?_
  refine lv_iadd hx hb dL_law_1254 ?_
  refine lv_topi (fun xz1 exz1 => ?_)
  obtain rfl : xz1 = 1 := exz1.trans (by decide)
  refine va_sld hx hb hX hbl hbA hS (by rw [hL6]; unfold vp_in; decide) dL_law_1255 ?_
  refine W.eq (g2 := F0 m 1256 ls [.int (xs 1), .ref (q 0)]) rfl ?_
  have hPc := hP.sub (ws' := [((q 0), .inr (11, [.ref (q 1), .ref (q 2), .ref (q 3), .ref (q 4), .ref (q 5), .ref (q 6), .ref (q 7), .ref (q 8), .ref (q 9), .ref (q 10), .ref (q 11), .ref (q 12), .ref (q 13), .ref (q 14), .ref (q 15)])), ((q 2), .inr (10, [.ref (q 25), .ref (q 26), .ref (q 27), .ref (q 28), .ref (q 29), .ref (q 30), .ref (q 31), .int 0, .int 0, .int 0, .int 0, .int 0, .int 0, .int 0, .int 0, .int 0]))]) [0, 11] rfl
  have hKc := hK.sub (tys' := []) [] rfl
  refine vp_callSi (va_Run.run (va_runV (As := [.int (xs 1)]) (rest := []) ⟨hx, hb, hml, hown, hts⟩ (f_X11_spared l dC dI ((q 0)) ((q 1)) ((q 2)) ((q 3)) ((q 4)) ((q 5)) ((q 6)) ((q 7)) ((q 8)) ((q 9)) ((q 10)) ((q 11)) ((q 12)) ((q 13)) ((q 14)) ((q 15)) ((q 25)) ((q 26)) ((q 27)) ((q 28)) ((q 29)) ((q 30)) ((q 31)) ((xs 1))) (cwV 1 hts (gk_V tw_926 tw_927 tw_928 tw_157 wki_f_X11_spared wkg_f_X11_spared) rfl rfl rfl (by decide +kernel) ⟨Nat.le_of_ble_eq_true rfl, Nat.le_of_ble_eq_true rfl⟩) ⟨fun a U g mk q => by obtain ⟨q0, qP, qK⟩ := q; exact ⟨q0, qP, va_K.moved (u := U) (U := U.calling g mk a) (Vm.Alike.refl U.vm) qK⟩, va_recv hKc hPc (ci := 11) (q0 := 0) rfl rfl, fun U hU hW => ⟨rfl, by rw [hU]; exact hPc, va_K.moved hW.alike hKc⟩⟩ rfl rfl hl.1 rfl (lv_room (Nat.le_of_ble_eq_true rfl)) dL_law_1256 ⟨Nat.le_of_ble_eq_true rfl, Nat.le_of_ble_eq_true rfl⟩)) (fun oz3 gz2 => ?_)
  obtain rfl := gz2
  refine lv_aload_n hx hb dL_law_1259 rfl (lv_at hl 2 rfl) ?_
  refine lv_aload_n hx hb dL_law_1260 rfl (lv_at hl 0 rfl) ?_
  refine lv_iload_n hx hb dL_law_1261 rfl (lv_at hl 3 rfl) ?_
  refine lv_iconst (v := 1) hx hb dL_law_1262 (by decide) ?_
  refine lv_iadd hx hb dL_law_1263 ?_
  refine lv_topi (fun xz4 exz4 => ?_)
  obtain rfl : xz4 = 1 := exz4.trans (by decide)
  refine va_sld hx hb hX hbl hbA hS (by rw [hL6]; unfold vp_in; decide) dL_law_1264 ?_
  refine W.eq (g2 := F0 m 1265 ls [.int (xs 1), .ref (r 0), .int (-1000)]) rfl ?_
  have hPc := hP.sub (ws' := [((r 0), .inr (12, [.int 0, .ref (r 1), .ref (r 2), .ref (r 3), .ref (r 4), .ref (r 5), .int 0, .int 0, .int 0, .int 0, .int 0, .long 0, .int 0, .int 0, .int 0, .int (-1), .ref (r 6), .ref (r 7), .ref (r 8), .ref (r 9), .ref (r 10), .ref (r 11), .ref (r 12), .ref (r 13), .int 0, .int 0, .int 0, .ref (r 14), .ref (r 15), .ref (r 16), .ref (r 17), .ref (r 18), .ref (r 19), .ref (r 20), .ref (r 21), .ref (r 22), .ref (r 23), .ref (r 24), .ref (r 25), .ref (r 26), .ref (r 27), .ref (r 28), .ref (r 29), .int 0, .int 0, .int 0, .ref (r 30), .int 0, .int 0, .int 0, .int 0, .int 0, .int 0, .ref (r 31), .int 0, .int 0, .int 0, .ref (r 32), .ref (r 33)])), ((r 6), .inl ((j 4), 5, .inl (fun _ => 0))), ((r 7), .inl ((j 5), 40, .inl (fun _ => 0)))]) [78, 83, 84] rfl
  have hKc := hK.sub (tys' := [((j 4), .int), ((j 5), .int)]) [60, 61] rfl
  have hDc := hD.sub (ws' := [((r 0), .inr (12, [.int 0, .ref (r 1), .ref (r 2), .ref (r 3), .ref (r 4), .ref (r 5), .int 0, .int 0, .int 0, .int 0, .int 0, .long 0, .int 0, .int 0, .int 0, .int (-1), .ref (r 6), .ref (r 7), .ref (r 8), .ref (r 9), .ref (r 10), .ref (r 11), .ref (r 12), .ref (r 13), .int 0, .int 0, .int 0, .ref (r 14), .ref (r 15), .ref (r 16), .ref (r 17), .ref (r 18), .ref (r 19), .ref (r 20), .ref (r 21), .ref (r 22), .ref (r 23), .ref (r 24), .ref (r 25), .ref (r 26), .ref (r 27), .ref (r 28), .ref (r 29), .int 0, .int 0, .int 0, .ref (r 30), .int 0, .int 0, .int 0, .int 0, .int 0, .int 0, .ref (r 31), .int 0, .int 0, .int 0, .ref (r 32), .ref (r 33)])), ((r 6), .inl ((j 4), 5, .inl (fun _ => 0))), ((r 7), .inl ((j 5), 40, .inl (fun _ => 0)))]) [78, 83, 84] (by decide) rfl
  have hFc := va_free (wc := [((r 0), .inr (12, [.int 0, .ref (r 1), .ref (r 2), .ref (r 3), .ref (r 4), .ref (r 5), .int 0, .int 0, .int 0, .int 0, .int 0, .long 0, .int 0, .int 0, .int 0, .int (-1), .ref (r 6), .ref (r 7), .ref (r 8), .ref (r 9), .ref (r 10), .ref (r 11), .ref (r 12), .ref (r 13), .int 0, .int 0, .int 0, .ref (r 14), .ref (r 15), .ref (r 16), .ref (r 17), .ref (r 18), .ref (r 19), .ref (r 20), .ref (r 21), .ref (r 22), .ref (r 23), .ref (r 24), .ref (r 25), .ref (r 26), .ref (r 27), .ref (r 28), .ref (r 29), .int 0, .int 0, .int 0, .ref (r 30), .int 0, .int 0, .int 0, .int 0, .int 0, .int 0, .ref (r 31), .int 0, .int 0, .int 0, .ref (r 32), .ref (r 33)])), ((r 6), .inl ((j 4), 5, .inl (fun _ => 0))), ((r 7), .inl ((j 5), 40, .inl (fun _ => 0)))]) hD hS hA [78, 83, 84] rfl
  refine va_calli (va_runV (As := [.int (xs 1)]) (rest := [.int (-1000)]) ⟨hx, hb, hml, hown, hts⟩ (f_X12_spared l dC dI H.size ((r 0)) ((r 1)) ((r 2)) ((r 3)) ((r 4)) ((r 5)) ((r 6)) ((r 7)) ((r 8)) ((r 9)) ((r 10)) ((r 11)) ((r 12)) ((r 13)) ((r 14)) ((r 15)) ((r 16)) ((r 17)) ((r 18)) ((r 19)) ((r 20)) ((r 21)) ((r 22)) ((r 23)) ((r 24)) ((r 25)) ((r 26)) ((r 27)) ((r 28)) ((r 29)) ((r 30)) ((r 31)) ((r 32)) ((r 33)) ((j 4)) ((j 5)) ((xs 1))) (cwV 1 hts (gk_V tw_929 tw_930 tw_931 tw_505 wki_f_X12_spared wkg_f_X12_spared) rfl rfl rfl (by decide +kernel) ⟨Nat.le_of_ble_eq_true rfl, Nat.le_of_ble_eq_true rfl⟩) ⟨fun a U g mk q => by obtain ⟨q0, q1, qP, qK, qD⟩ := q; exact ⟨q0, q1, qP, va_K.moved (u := U) (U := U.calling g mk a) (Vm.Alike.refl U.vm) qK, qD⟩, va_recv hKc hPc (ci := 12) (q0 := 0) rfl rfl, fun U hU hW => ⟨rfl, by rw [hU], by rw [hU]; exact hPc, va_K.moved hW.alike hKc, hDc.weaken (fun _ _ _ _ => trivial)⟩⟩ rfl rfl hl.1 rfl (lv_room (Nat.le_of_ble_eq_true rfl)) dL_law_1265 ⟨Nat.le_of_ble_eq_true rfl, Nat.le_of_ble_eq_true rfl⟩) hS (fun q _ h => hFc q h) hFc (fun oz6 u t H1 locs ht hvm gz5 hB hz1 hk1 hS => ?_)
  generalize H1 = H at hS ⊢
  refine W.widen (k := 305) (n := 4995) (Nat.le_of_ble_eq_true rfl) (Nat.le_of_ble_eq_true rfl) ?_
  obtain rfl := gz5
  refine lv_icmp_eq (tgt := 2293) hx hb dL_law_1268 (by decide) (fun cz7 => ?_) (fun cz7 => ?_)
  · skip
    exact law_end (dC := dC) (dI := dI) (Nat.le_of_eq hL6) C0 A hAe (q 0) (r 0) H locs hS ls hl
  · skip
    exact absurd cz7 (by decide)
set_option maxHeartbeats 4000000 in
set_option maxRecDepth 100000 in
theorem law_case_39 {p : Program} {l : Launch} {e : Env} {s : State} {m : MethodId} {below : List Frame} {meth : Method} {c : Code} {dC : Nat → ClassId} {dI : Nat → Nat → Nat} {b L : Nat} {xs : Nat → Int32} (hL6 : L = 6) (C0 : lw_At p s m meth c b L xs) (A : Nat → Prop) (hAe : A = fun q => s.heap.size ≤ q) (q r : Nat → Nat) (k j : Nat → ClassId) (H : Heap) (locs : List Loc) (hK : va_K (dC, dI) vwCl (tX k ++ tM j) s) (hP : va_P (dC, dI) vwCl (wX q k ++ wM r j) H) (hD : va_D A (wX q k ++ wM r j)) (hS : va_S A s.heap H locs) (ls : Array Slot) (hl : lv_has ls 4 [(0, .ref b), (1, .ref (q 0)), (2, .ref (r 0)), (3, .int 0)]) : W p l e room_1 s m #[Value.ref b] below meth c H locs 305 4995 (lw_Z below #[Value.ref b] s) (F0 m 1273 ls []) := by
  obtain ⟨hx, hb, hr, hml, hown, hts, hX, hbl, hlocks, hgv⟩ := id C0
  have hown : s.vm.findClass RL = some m.cls := hown
  have hA : ∀ q : Nat, s.heap.size ≤ q → A q := by rw [hAe]; exact fun _ h => h
  have hbA : ¬ A b := by rw [hAe]; exact Nat.not_le.mpr hbl
  refine lv_aload_n hx hb dL_law_1273 rfl (lv_at hl 1 rfl) ?_
  have hPc := hP.sub (ws' := [((q 0), .inr (11, [.ref (q 1), .ref (q 2), .ref (q 3), .ref (q 4), .ref (q 5), .ref (q 6), .ref (q 7), .ref (q 8), .ref (q 9), .ref (q 10), .ref (q 11), .ref (q 12), .ref (q 13), .ref (q 14), .ref (q 15)])), ((q 2), .inr (10, [.ref (q 25), .ref (q 26), .ref (q 27), .ref (q 28), .ref (q 29), .ref (q 30), .ref (q 31), .int 0, .int 0, .int 0, .int 0, .int 0, .int 0, .int 0, .int 0, .int 0]))]) [0, 11] rfl
  have hKc := hK.sub (tys' := []) [] rfl
  refine vp_callSi (va_Run.run (va_runV (As := []) (rest := []) ⟨hx, hb, hml, hown, hts⟩ (f_X11_worst l dC dI ((q 0)) ((q 1)) ((q 2)) ((q 3)) ((q 4)) ((q 5)) ((q 6)) ((q 7)) ((q 8)) ((q 9)) ((q 10)) ((q 11)) ((q 12)) ((q 13)) ((q 14)) ((q 15)) ((q 25)) ((q 26)) ((q 27)) ((q 28)) ((q 29)) ((q 30)) ((q 31))) (cwV 0 hts (gk_V tw_932 tw_933 tw_934 tw_157 wki_f_X11_worst wkg_f_X11_worst) rfl rfl rfl (by decide +kernel) ⟨Nat.le_of_ble_eq_true rfl, Nat.le_of_ble_eq_true rfl⟩) ⟨fun a U g mk q => by obtain ⟨q0, qP, qK⟩ := q; exact ⟨q0, qP, va_K.moved (u := U) (U := U.calling g mk a) (Vm.Alike.refl U.vm) qK⟩, va_recv hKc hPc (ci := 11) (q0 := 0) rfl rfl, fun U hU hW => ⟨rfl, by rw [hU]; exact hPc, va_K.moved hW.alike hKc⟩⟩ rfl rfl hl.1 rfl (lv_room (Nat.le_of_ble_eq_true rfl)) dL_law_1274 ⟨Nat.le_of_ble_eq_true rfl, Nat.le_of_ble_eq_true rfl⟩)) (fun oz2 gz1 => ?_)
  obtain rfl := gz1
  refine lv_aload_n hx hb dL_law_1277 rfl (lv_at hl 2 rfl) ?_
  have hPc := hP.sub (ws' := [((r 0), .inr (12, [.int 0, .ref (r 1), .ref (r 2), .ref (r 3), .ref (r 4), .ref (r 5), .int 0, .int 0, .int 0, .int 0, .int 0, .long 0, .int 0, .int 0, .int 0, .int (-1), .ref (r 6), .ref (r 7), .ref (r 8), .ref (r 9), .ref (r 10), .ref (r 11), .ref (r 12), .ref (r 13), .int 0, .int 0, .int 0, .ref (r 14), .ref (r 15), .ref (r 16), .ref (r 17), .ref (r 18), .ref (r 19), .ref (r 20), .ref (r 21), .ref (r 22), .ref (r 23), .ref (r 24), .ref (r 25), .ref (r 26), .ref (r 27), .ref (r 28), .ref (r 29), .int 0, .int 0, .int 0, .ref (r 30), .int 0, .int 0, .int 0, .int 0, .int 0, .int 0, .ref (r 31), .int 0, .int 0, .int 0, .ref (r 32), .ref (r 33)])), ((r 6), .inl ((j 4), 5, .inl (fun _ => 0))), ((r 7), .inl ((j 5), 40, .inl (fun _ => 0)))]) [78, 83, 84] rfl
  have hKc := hK.sub (tys' := [((j 4), .int), ((j 5), .int)]) [60, 61] rfl
  have hDc := hD.sub (ws' := [((r 0), .inr (12, [.int 0, .ref (r 1), .ref (r 2), .ref (r 3), .ref (r 4), .ref (r 5), .int 0, .int 0, .int 0, .int 0, .int 0, .long 0, .int 0, .int 0, .int 0, .int (-1), .ref (r 6), .ref (r 7), .ref (r 8), .ref (r 9), .ref (r 10), .ref (r 11), .ref (r 12), .ref (r 13), .int 0, .int 0, .int 0, .ref (r 14), .ref (r 15), .ref (r 16), .ref (r 17), .ref (r 18), .ref (r 19), .ref (r 20), .ref (r 21), .ref (r 22), .ref (r 23), .ref (r 24), .ref (r 25), .ref (r 26), .ref (r 27), .ref (r 28), .ref (r 29), .int 0, .int 0, .int 0, .ref (r 30), .int 0, .int 0, .int 0, .int 0, .int 0, .int 0, .ref (r 31), .int 0, .int 0, .int 0, .ref (r 32), .ref (r 33)])), ((r 6), .inl ((j 4), 5, .inl (fun _ => 0))), ((r 7), .inl ((j 5), 40, .inl (fun _ => 0)))]) [78, 83, 84] (by decide) rfl
  have hFc := va_free (wc := [((r 0), .inr (12, [.int 0, .ref (r 1), .ref (r 2), .ref (r 3), .ref (r 4), .ref (r 5), .int 0, .int 0, .int 0, .int 0, .int 0, .long 0, .int 0, .int 0, .int 0, .int (-1), .ref (r 6), .ref (r 7), .ref (r 8), .ref (r 9), .ref (r 10), .ref (r 11), .ref (r 12), .ref (r 13), .int 0, .int 0, .int 0, .ref (r 14), .ref (r 15), .ref (r 16), .ref (r 17), .ref (r 18), .ref (r 19), .ref (r 20), .ref (r 21), .ref (r 22), .ref (r 23), .ref (r 24), .ref (r 25), .ref (r 26), .ref (r 27), .ref (r 28), .ref (r 29), .int 0, .int 0, .int 0, .ref (r 30), .int 0, .int 0, .int 0, .int 0, .int 0, .int 0, .ref (r 31), .int 0, .int 0, .int 0, .ref (r 32), .ref (r 33)])), ((r 6), .inl ((j 4), 5, .inl (fun _ => 0))), ((r 7), .inl ((j 5), 40, .inl (fun _ => 0)))]) hD hS hA [78, 83, 84] rfl
  refine va_calli (va_runV (As := []) (rest := [.int (-2)]) ⟨hx, hb, hml, hown, hts⟩ (f_X12_worst l dC dI H.size ((r 0)) ((r 1)) ((r 2)) ((r 3)) ((r 4)) ((r 5)) ((r 6)) ((r 7)) ((r 8)) ((r 9)) ((r 10)) ((r 11)) ((r 12)) ((r 13)) ((r 14)) ((r 15)) ((r 16)) ((r 17)) ((r 18)) ((r 19)) ((r 20)) ((r 21)) ((r 22)) ((r 23)) ((r 24)) ((r 25)) ((r 26)) ((r 27)) ((r 28)) ((r 29)) ((r 30)) ((r 31)) ((r 32)) ((r 33)) ((j 4)) ((j 5))) (cwV 0 hts (gk_V tw_935 tw_936 tw_937 tw_505 wki_f_X12_worst wkg_f_X12_worst) rfl rfl rfl (by decide +kernel) ⟨Nat.le_of_ble_eq_true rfl, Nat.le_of_ble_eq_true rfl⟩) ⟨fun a U g mk q => by obtain ⟨q0, q1, qP, qK, qD⟩ := q; exact ⟨q0, q1, qP, va_K.moved (u := U) (U := U.calling g mk a) (Vm.Alike.refl U.vm) qK, qD⟩, va_recv hKc hPc (ci := 12) (q0 := 0) rfl rfl, fun U hU hW => ⟨rfl, by rw [hU], by rw [hU]; exact hPc, va_K.moved hW.alike hKc, hDc.weaken (fun _ _ _ _ => trivial)⟩⟩ rfl rfl hl.1 rfl (lv_room (Nat.le_of_ble_eq_true rfl)) dL_law_1278 ⟨Nat.le_of_ble_eq_true rfl, Nat.le_of_ble_eq_true rfl⟩) hS (fun q _ h => hFc q h) hFc (fun oz4 u t H1 locs ht hvm gz3 hB hz1 hk1 hS => ?_)
  generalize H1 = H at hS ⊢
  refine W.widen (k := 305) (n := 4995) (Nat.le_of_ble_eq_true rfl) (Nat.le_of_ble_eq_true rfl) ?_
  obtain rfl := gz3
  refine lv_icmp_eq (tgt := 2293) hx hb dL_law_1281 (by decide) (fun cz5 => ?_) (fun cz5 => ?_)
  · skip
    exact law_end (dC := dC) (dI := dI) (Nat.le_of_eq hL6) C0 A hAe (q 0) (r 0) H locs hS ls hl
  · skip
    exact absurd cz5 (by decide)
set_option maxHeartbeats 4000000 in
set_option maxRecDepth 100000 in
theorem law_case_40 {p : Program} {l : Launch} {e : Env} {s : State} {m : MethodId} {below : List Frame} {meth : Method} {c : Code} {dC : Nat → ClassId} {dI : Nat → Nat → Nat} {b L : Nat} {xs : Nat → Int32} (hL6 : L = 6) (C0 : lw_At p s m meth c b L xs) (A : Nat → Prop) (hAe : A = fun q => s.heap.size ≤ q) (q r : Nat → Nat) (k j : Nat → ClassId) (H : Heap) (locs : List Loc) (hK : va_K (dC, dI) vwCl (tX k ++ tM j) s) (hP : va_P (dC, dI) vwCl (wX q k ++ wM r j) H) (hD : va_D A (wX q k ++ wM r j)) (hS : va_S A s.heap H locs) (ls : Array Slot) (hl : lv_has ls 4 [(0, .ref b), (1, .ref (q 0)), (2, .ref (r 0)), (3, .int 0)]) : W p l e room_1 s m #[Value.ref b] below meth c H locs 305 4995 (lw_Z below #[Value.ref b] s) (F0 m 1286 ls []) := by
  obtain ⟨hx, hb, hr, hml, hown, hts, hX, hbl, hlocks, hgv⟩ := id C0
  have hown : s.vm.findClass RL = some m.cls := hown
  have hA : ∀ q : Nat, s.heap.size ≤ q → A q := by rw [hAe]; exact fun _ h => h
  have hbA : ¬ A b := by rw [hAe]; exact Nat.not_le.mpr hbl
  refine lv_aload_n hx hb dL_law_1286 rfl (lv_at hl 1 rfl) ?_
  have hPc := hP.sub (ws' := [((q 0), .inr (11, [.ref (q 1), .ref (q 2), .ref (q 3), .ref (q 4), .ref (q 5), .ref (q 6), .ref (q 7), .ref (q 8), .ref (q 9), .ref (q 10), .ref (q 11), .ref (q 12), .ref (q 13), .ref (q 14), .ref (q 15)])), ((q 2), .inr (10, [.ref (q 25), .ref (q 26), .ref (q 27), .ref (q 28), .ref (q 29), .ref (q 30), .ref (q 31), .int 0, .int 0, .int 0, .int 0, .int 0, .int 0, .int 0, .int 0, .int 0]))]) [0, 11] rfl
  have hKc := hK.sub (tys' := []) [] rfl
  refine vp_callSi (va_Run.run (va_runV (As := []) (rest := []) ⟨hx, hb, hml, hown, hts⟩ (f_X11_forget l dC dI ((q 0)) ((q 1)) ((q 2)) ((q 3)) ((q 4)) ((q 5)) ((q 6)) ((q 7)) ((q 8)) ((q 9)) ((q 10)) ((q 11)) ((q 12)) ((q 13)) ((q 14)) ((q 15)) ((q 25)) ((q 26)) ((q 27)) ((q 28)) ((q 29)) ((q 30)) ((q 31))) (cwV 0 hts (gk_V tw_938 tw_939 tw_940 tw_157 wki_f_X11_forget wkg_f_X11_forget) rfl rfl rfl (by decide +kernel) ⟨Nat.le_of_ble_eq_true rfl, Nat.le_of_ble_eq_true rfl⟩) ⟨fun a U g mk q => by obtain ⟨q0, qP, qK⟩ := q; exact ⟨q0, qP, va_K.moved (u := U) (U := U.calling g mk a) (Vm.Alike.refl U.vm) qK⟩, va_recv hKc hPc (ci := 11) (q0 := 0) rfl rfl, fun U hU hW => ⟨rfl, by rw [hU]; exact hPc, va_K.moved hW.alike hKc⟩⟩ rfl rfl hl.1 rfl (lv_room (Nat.le_of_ble_eq_true rfl)) dL_law_1287 ⟨Nat.le_of_ble_eq_true rfl, Nat.le_of_ble_eq_true rfl⟩)) (fun oz2 gz1 => ?_)
  obtain rfl := gz1
  refine lv_aload_n hx hb dL_law_1290 rfl (lv_at hl 2 rfl) ?_
  have hPc := hP.sub (ws' := [((r 0), .inr (12, [.int 0, .ref (r 1), .ref (r 2), .ref (r 3), .ref (r 4), .ref (r 5), .int 0, .int 0, .int 0, .int 0, .int 0, .long 0, .int 0, .int 0, .int 0, .int (-1), .ref (r 6), .ref (r 7), .ref (r 8), .ref (r 9), .ref (r 10), .ref (r 11), .ref (r 12), .ref (r 13), .int 0, .int 0, .int 0, .ref (r 14), .ref (r 15), .ref (r 16), .ref (r 17), .ref (r 18), .ref (r 19), .ref (r 20), .ref (r 21), .ref (r 22), .ref (r 23), .ref (r 24), .ref (r 25), .ref (r 26), .ref (r 27), .ref (r 28), .ref (r 29), .int 0, .int 0, .int 0, .ref (r 30), .int 0, .int 0, .int 0, .int 0, .int 0, .int 0, .ref (r 31), .int 0, .int 0, .int 0, .ref (r 32), .ref (r 33)])), ((r 6), .inl ((j 4), 5, .inl (fun _ => 0))), ((r 7), .inl ((j 5), 40, .inl (fun _ => 0)))]) [78, 83, 84] rfl
  have hKc := hK.sub (tys' := [((j 4), .int), ((j 5), .int)]) [60, 61] rfl
  have hDc := hD.sub (ws' := [((r 0), .inr (12, [.int 0, .ref (r 1), .ref (r 2), .ref (r 3), .ref (r 4), .ref (r 5), .int 0, .int 0, .int 0, .int 0, .int 0, .long 0, .int 0, .int 0, .int 0, .int (-1), .ref (r 6), .ref (r 7), .ref (r 8), .ref (r 9), .ref (r 10), .ref (r 11), .ref (r 12), .ref (r 13), .int 0, .int 0, .int 0, .ref (r 14), .ref (r 15), .ref (r 16), .ref (r 17), .ref (r 18), .ref (r 19), .ref (r 20), .ref (r 21), .ref (r 22), .ref (r 23), .ref (r 24), .ref (r 25), .ref (r 26), .ref (r 27), .ref (r 28), .ref (r 29), .int 0, .int 0, .int 0, .ref (r 30), .int 0, .int 0, .int 0, .int 0, .int 0, .int 0, .ref (r 31), .int 0, .int 0, .int 0, .ref (r 32), .ref (r 33)])), ((r 6), .inl ((j 4), 5, .inl (fun _ => 0))), ((r 7), .inl ((j 5), 40, .inl (fun _ => 0)))]) [78, 83, 84] (by decide) rfl
  have hFc := va_free (wc := [((r 0), .inr (12, [.int 0, .ref (r 1), .ref (r 2), .ref (r 3), .ref (r 4), .ref (r 5), .int 0, .int 0, .int 0, .int 0, .int 0, .long 0, .int 0, .int 0, .int 0, .int (-1), .ref (r 6), .ref (r 7), .ref (r 8), .ref (r 9), .ref (r 10), .ref (r 11), .ref (r 12), .ref (r 13), .int 0, .int 0, .int 0, .ref (r 14), .ref (r 15), .ref (r 16), .ref (r 17), .ref (r 18), .ref (r 19), .ref (r 20), .ref (r 21), .ref (r 22), .ref (r 23), .ref (r 24), .ref (r 25), .ref (r 26), .ref (r 27), .ref (r 28), .ref (r 29), .int 0, .int 0, .int 0, .ref (r 30), .int 0, .int 0, .int 0, .int 0, .int 0, .int 0, .ref (r 31), .int 0, .int 0, .int 0, .ref (r 32), .ref (r 33)])), ((r 6), .inl ((j 4), 5, .inl (fun _ => 0))), ((r 7), .inl ((j 5), 40, .inl (fun _ => 0)))]) hD hS hA [78, 83, 84] rfl
  refine va_calli (va_runV (As := []) (rest := [.int (-2)]) ⟨hx, hb, hml, hown, hts⟩ (f_X12_forget l dC dI H.size ((r 0)) ((r 1)) ((r 2)) ((r 3)) ((r 4)) ((r 5)) ((r 6)) ((r 7)) ((r 8)) ((r 9)) ((r 10)) ((r 11)) ((r 12)) ((r 13)) ((r 14)) ((r 15)) ((r 16)) ((r 17)) ((r 18)) ((r 19)) ((r 20)) ((r 21)) ((r 22)) ((r 23)) ((r 24)) ((r 25)) ((r 26)) ((r 27)) ((r 28)) ((r 29)) ((r 30)) ((r 31)) ((r 32)) ((r 33)) ((j 4)) ((j 5))) (cwV 0 hts (gk_V tw_941 tw_942 tw_943 tw_505 wki_f_X12_forget wkg_f_X12_forget) rfl rfl rfl (by decide +kernel) ⟨Nat.le_of_ble_eq_true rfl, Nat.le_of_ble_eq_true rfl⟩) ⟨fun a U g mk q => by obtain ⟨q0, q1, qP, qK, qD⟩ := q; exact ⟨q0, q1, qP, va_K.moved (u := U) (U := U.calling g mk a) (Vm.Alike.refl U.vm) qK, qD⟩, va_recv hKc hPc (ci := 12) (q0 := 0) rfl rfl, fun U hU hW => ⟨rfl, by rw [hU], by rw [hU]; exact hPc, va_K.moved hW.alike hKc, hDc.weaken (fun _ _ _ _ => trivial)⟩⟩ rfl rfl hl.1 rfl (lv_room (Nat.le_of_ble_eq_true rfl)) dL_law_1291 ⟨Nat.le_of_ble_eq_true rfl, Nat.le_of_ble_eq_true rfl⟩) hS (fun q _ h => hFc q h) hFc (fun oz4 u t H1 locs ht hvm gz3 hB hz1 hk1 hS => ?_)
  generalize H1 = H at hS ⊢
  refine W.widen (k := 305) (n := 4995) (Nat.le_of_ble_eq_true rfl) (Nat.le_of_ble_eq_true rfl) ?_
  obtain rfl := gz3
  refine lv_icmp_eq (tgt := 2293) hx hb dL_law_1294 (by decide) (fun cz5 => ?_) (fun cz5 => ?_)
  · skip
    exact law_end (dC := dC) (dI := dI) (Nat.le_of_eq hL6) C0 A hAe (q 0) (r 0) H locs hS ls hl
  · skip
    exact absurd cz5 (by decide)
set_option maxHeartbeats 4000000 in
set_option maxRecDepth 100000 in
theorem law_case_41 {p : Program} {l : Launch} {e : Env} {s : State} {m : MethodId} {below : List Frame} {meth : Method} {c : Code} {dC : Nat → ClassId} {dI : Nat → Nat → Nat} {b L : Nat} {xs : Nat → Int32} (hL6 : L = 6) (C0 : lw_At p s m meth c b L xs) (A : Nat → Prop) (hAe : A = fun q => s.heap.size ≤ q) (q r : Nat → Nat) (k j : Nat → ClassId) (H : Heap) (locs : List Loc) (hK : va_K (dC, dI) vwCl (tX k ++ tM j) s) (hP : va_P (dC, dI) vwCl (wX q k ++ wM r j) H) (hD : va_D A (wX q k ++ wM r j)) (hS : va_S A s.heap H locs) (ls : Array Slot) (hl : lv_has ls 4 [(0, .ref b), (1, .ref (q 0)), (2, .ref (r 0)), (3, .int 0)]) : W p l e room_1 s m #[Value.ref b] below meth c H locs 305 4995 (lw_Z below #[Value.ref b] s) (F0 m 1299 ls []) := by
  obtain ⟨hx, hb, hr, hml, hown, hts, hX, hbl, hlocks, hgv⟩ := id C0
  have hown : s.vm.findClass RL = some m.cls := hown
  have hA : ∀ q : Nat, s.heap.size ≤ q → A q := by rw [hAe]; exact fun _ h => h
  have hbA : ¬ A b := by rw [hAe]; exact Nat.not_le.mpr hbl
  refine lv_aload_n hx hb dL_law_1299 rfl (lv_at hl 1 rfl) ?_
  refine lv_aload_n hx hb dL_law_1300 rfl (lv_at hl 0 rfl) ?_
  refine lv_iload_n hx hb dL_law_1301 rfl (lv_at hl 3 rfl) ?_
  refine lv_iconst (v := 1) hx hb dL_law_1302 (by decide) ?_
  refine lv_iadd hx hb dL_law_1303 ?_
  refine lv_topi (fun xz1 exz1 => ?_)
  obtain rfl : xz1 = 1 := exz1.trans (by decide)
  refine va_sld hx hb hX hbl hbA hS (by rw [hL6]; unfold vp_in; decide) dL_law_1304 ?_
  refine W.eq (g2 := F0 m 1305 ls [.int (xs 1), .ref (q 0)]) rfl ?_
  refine lv_aload_n hx hb dL_law_1305 rfl (lv_at hl 0 rfl) ?_
  refine lv_iload_n hx hb dL_law_1306 rfl (lv_at hl 3 rfl) ?_
  refine lv_iconst (v := 2) hx hb dL_law_1307 (by decide) ?_
  refine lv_iadd hx hb dL_law_1308 ?_
  refine lv_topi (fun xz2 exz2 => ?_)
  obtain rfl : xz2 = 2 := exz2.trans (by decide)
  refine va_sld hx hb hX hbl hbA hS (by rw [hL6]; unfold vp_in; decide) dL_law_1309 ?_
  refine W.eq (g2 := F0 m 1310 ls [.int (xs 2), .int (xs 1), .ref (q 0)]) rfl ?_
  have hPc := hP.sub (ws' := [((q 0), .inr (11, [.ref (q 1), .ref (q 2), .ref (q 3), .ref (q 4), .ref (q 5), .ref (q 6), .ref (q 7), .ref (q 8), .ref (q 9), .ref (q 10), .ref (q 11), .ref (q 12), .ref (q 13), .ref (q 14), .ref (q 15)])), ((q 2), .inr (10, [.ref (q 25), .ref (q 26), .ref (q 27), .ref (q 28), .ref (q 29), .ref (q 30), .ref (q 31), .int 0, .int 0, .int 0, .int 0, .int 0, .int 0, .int 0, .int 0, .int 0]))]) [0, 11] rfl
  have hKc := hK.sub (tys' := []) [] rfl
  refine vp_callSi (va_Run.run (va_runV (As := [.int (xs 1), .int (xs 2)]) (rest := []) ⟨hx, hb, hml, hown, hts⟩ (f_X11_sets l dC dI ((q 0)) ((q 1)) ((q 2)) ((q 3)) ((q 4)) ((q 5)) ((q 6)) ((q 7)) ((q 8)) ((q 9)) ((q 10)) ((q 11)) ((q 12)) ((q 13)) ((q 14)) ((q 15)) ((q 25)) ((q 26)) ((q 27)) ((q 28)) ((q 29)) ((q 30)) ((q 31)) ((xs 1)) ((xs 2))) (cwV 2 hts (gk_V tw_944 tw_945 tw_946 tw_157 wki_f_X11_sets wkg_f_X11_sets) rfl rfl rfl (by decide +kernel) ⟨Nat.le_of_ble_eq_true rfl, Nat.le_of_ble_eq_true rfl⟩) ⟨fun a U g mk q => by obtain ⟨q0, qP, qK⟩ := q; exact ⟨q0, qP, va_K.moved (u := U) (U := U.calling g mk a) (Vm.Alike.refl U.vm) qK⟩, va_recv hKc hPc (ci := 11) (q0 := 0) rfl rfl, fun U hU hW => ⟨rfl, by rw [hU]; exact hPc, va_K.moved hW.alike hKc⟩⟩ rfl rfl hl.1 rfl (lv_room (Nat.le_of_ble_eq_true rfl)) dL_law_1310 ⟨Nat.le_of_ble_eq_true rfl, Nat.le_of_ble_eq_true rfl⟩)) (fun oz4 gz3 => ?_)
  obtain rfl := gz3
  refine lv_aload_n hx hb dL_law_1313 rfl (lv_at hl 2 rfl) ?_
  refine lv_aload_n hx hb dL_law_1314 rfl (lv_at hl 0 rfl) ?_
  refine lv_iload_n hx hb dL_law_1315 rfl (lv_at hl 3 rfl) ?_
  refine lv_iconst (v := 1) hx hb dL_law_1316 (by decide) ?_
  refine lv_iadd hx hb dL_law_1317 ?_
  refine lv_topi (fun xz5 exz5 => ?_)
  obtain rfl : xz5 = 1 := exz5.trans (by decide)
  refine va_sld hx hb hX hbl hbA hS (by rw [hL6]; unfold vp_in; decide) dL_law_1318 ?_
  refine W.eq (g2 := F0 m 1319 ls [.int (xs 1), .ref (r 0), .int (-2)]) rfl ?_
  refine lv_aload_n hx hb dL_law_1319 rfl (lv_at hl 0 rfl) ?_
  refine lv_iload_n hx hb dL_law_1320 rfl (lv_at hl 3 rfl) ?_
  refine lv_iconst (v := 2) hx hb dL_law_1321 (by decide) ?_
  refine lv_iadd hx hb dL_law_1322 ?_
  refine lv_topi (fun xz6 exz6 => ?_)
  obtain rfl : xz6 = 2 := exz6.trans (by decide)
  refine va_sld hx hb hX hbl hbA hS (by rw [hL6]; unfold vp_in; decide) dL_law_1323 ?_
  refine W.eq (g2 := F0 m 1324 ls [.int (xs 2), .int (xs 1), .ref (r 0), .int (-2)]) rfl ?_
  have hPc := hP.sub (ws' := [((r 0), .inr (12, [.int 0, .ref (r 1), .ref (r 2), .ref (r 3), .ref (r 4), .ref (r 5), .int 0, .int 0, .int 0, .int 0, .int 0, .long 0, .int 0, .int 0, .int 0, .int (-1), .ref (r 6), .ref (r 7), .ref (r 8), .ref (r 9), .ref (r 10), .ref (r 11), .ref (r 12), .ref (r 13), .int 0, .int 0, .int 0, .ref (r 14), .ref (r 15), .ref (r 16), .ref (r 17), .ref (r 18), .ref (r 19), .ref (r 20), .ref (r 21), .ref (r 22), .ref (r 23), .ref (r 24), .ref (r 25), .ref (r 26), .ref (r 27), .ref (r 28), .ref (r 29), .int 0, .int 0, .int 0, .ref (r 30), .int 0, .int 0, .int 0, .int 0, .int 0, .int 0, .ref (r 31), .int 0, .int 0, .int 0, .ref (r 32), .ref (r 33)])), ((r 6), .inl ((j 4), 5, .inl (fun _ => 0))), ((r 7), .inl ((j 5), 40, .inl (fun _ => 0)))]) [78, 83, 84] rfl
  have hKc := hK.sub (tys' := [((j 4), .int), ((j 5), .int)]) [60, 61] rfl
  have hDc := hD.sub (ws' := [((r 0), .inr (12, [.int 0, .ref (r 1), .ref (r 2), .ref (r 3), .ref (r 4), .ref (r 5), .int 0, .int 0, .int 0, .int 0, .int 0, .long 0, .int 0, .int 0, .int 0, .int (-1), .ref (r 6), .ref (r 7), .ref (r 8), .ref (r 9), .ref (r 10), .ref (r 11), .ref (r 12), .ref (r 13), .int 0, .int 0, .int 0, .ref (r 14), .ref (r 15), .ref (r 16), .ref (r 17), .ref (r 18), .ref (r 19), .ref (r 20), .ref (r 21), .ref (r 22), .ref (r 23), .ref (r 24), .ref (r 25), .ref (r 26), .ref (r 27), .ref (r 28), .ref (r 29), .int 0, .int 0, .int 0, .ref (r 30), .int 0, .int 0, .int 0, .int 0, .int 0, .int 0, .ref (r 31), .int 0, .int 0, .int 0, .ref (r 32), .ref (r 33)])), ((r 6), .inl ((j 4), 5, .inl (fun _ => 0))), ((r 7), .inl ((j 5), 40, .inl (fun _ => 0)))]) [78, 83, 84] (by decide) rfl
  have hFc := va_free (wc := [((r 0), .inr (12, [.int 0, .ref (r 1), .ref (r 2), .ref (r 3), .ref (r 4), .ref (r 5), .int 0, .int 0, .int 0, .int 0, .int 0, .long 0, .int 0, .int 0, .int 0, .int (-1), .ref (r 6), .ref (r 7), .ref (r 8), .ref (r 9), .ref (r 10), .ref (r 11), .ref (r 12), .ref (r 13), .int 0, .int 0, .int 0, .ref (r 14), .ref (r 15), .ref (r 16), .ref (r 17), .ref (r 18), .ref (r 19), .ref (r 20), .ref (r 21), .ref (r 22), .ref (r 23), .ref (r 24), .ref (r 25), .ref (r 26), .ref (r 27), .ref (r 28), .ref (r 29), .int 0, .int 0, .int 0, .ref (r 30), .int 0, .int 0, .int 0, .int 0, .int 0, .int 0, .ref (r 31), .int 0, .int 0, .int 0, .ref (r 32), .ref (r 33)])), ((r 6), .inl ((j 4), 5, .inl (fun _ => 0))), ((r 7), .inl ((j 5), 40, .inl (fun _ => 0)))]) hD hS hA [78, 83, 84] rfl
  refine va_calli (va_runV (As := [.int (xs 1), .int (xs 2)]) (rest := [.int (-2)]) ⟨hx, hb, hml, hown, hts⟩ (f_X12_sets l dC dI H.size ((r 0)) ((r 1)) ((r 2)) ((r 3)) ((r 4)) ((r 5)) ((r 6)) ((r 7)) ((r 8)) ((r 9)) ((r 10)) ((r 11)) ((r 12)) ((r 13)) ((r 14)) ((r 15)) ((r 16)) ((r 17)) ((r 18)) ((r 19)) ((r 20)) ((r 21)) ((r 22)) ((r 23)) ((r 24)) ((r 25)) ((r 26)) ((r 27)) ((r 28)) ((r 29)) ((r 30)) ((r 31)) ((r 32)) ((r 33)) ((j 4)) ((j 5)) ((xs 1)) ((xs 2))) (cwV 2 hts (gk_V tw_947 tw_948 tw_949 tw_505 wki_f_X12_sets wkg_f_X12_sets) rfl rfl rfl (by decide +kernel) ⟨Nat.le_of_ble_eq_true rfl, Nat.le_of_ble_eq_true rfl⟩) ⟨fun a U g mk q => by obtain ⟨q0, q1, qP, qK, qD⟩ := q; exact ⟨q0, q1, qP, va_K.moved (u := U) (U := U.calling g mk a) (Vm.Alike.refl U.vm) qK, qD⟩, va_recv hKc hPc (ci := 12) (q0 := 0) rfl rfl, fun U hU hW => ⟨rfl, by rw [hU], by rw [hU]; exact hPc, va_K.moved hW.alike hKc, hDc.weaken (fun _ _ _ _ => trivial)⟩⟩ rfl rfl hl.1 rfl (lv_room (Nat.le_of_ble_eq_true rfl)) dL_law_1324 ⟨Nat.le_of_ble_eq_true rfl, Nat.le_of_ble_eq_true rfl⟩) hS (fun q _ h => hFc q h) hFc (fun oz8 u t H1 locs ht hvm gz7 hB hz1 hk1 hS => ?_)
  generalize H1 = H at hS ⊢
  refine W.widen (k := 305) (n := 4995) (Nat.le_of_ble_eq_true rfl) (Nat.le_of_ble_eq_true rfl) ?_
  obtain rfl := gz7
  refine lv_icmp_eq (tgt := 2293) hx hb dL_law_1327 (by decide) (fun cz9 => ?_) (fun cz9 => ?_)
  · skip
    exact law_end (dC := dC) (dI := dI) (Nat.le_of_eq hL6) C0 A hAe (q 0) (r 0) H locs hS ls hl
  · skip
    exact absurd cz9 (by decide)
set_option maxHeartbeats 4000000 in
set_option maxRecDepth 100000 in
theorem law_case_42 {p : Program} {l : Launch} {e : Env} {s : State} {m : MethodId} {below : List Frame} {meth : Method} {c : Code} {dC : Nat → ClassId} {dI : Nat → Nat → Nat} {b L : Nat} {xs : Nat → Int32} (hL6 : L = 6) (C0 : lw_At p s m meth c b L xs) (A : Nat → Prop) (hAe : A = fun q => s.heap.size ≤ q) (q r : Nat → Nat) (k j : Nat → ClassId) (H : Heap) (locs : List Loc) (hK : va_K (dC, dI) vwCl (tX k ++ tM j) s) (hP : va_P (dC, dI) vwCl (wX q k ++ wM r j) H) (hD : va_D A (wX q k ++ wM r j)) (hS : va_S A s.heap H locs) (ls : Array Slot) (hl : lv_has ls 4 [(0, .ref b), (1, .ref (q 0)), (2, .ref (r 0)), (3, .int 0)]) : W p l e room_1 s m #[Value.ref b] below meth c H locs 305 4995 (lw_Z below #[Value.ref b] s) (F0 m 1332 ls []) := by
  obtain ⟨hx, hb, hr, hml, hown, hts, hX, hbl, hlocks, hgv⟩ := id C0
  have hown : s.vm.findClass RL = some m.cls := hown
  have hA : ∀ q : Nat, s.heap.size ≤ q → A q := by rw [hAe]; exact fun _ h => h
  have hbA : ¬ A b := by rw [hAe]; exact Nat.not_le.mpr hbl
  refine lv_aload_n hx hb dL_law_1332 rfl (lv_at hl 1 rfl) ?_
  refine lv_aload_n hx hb dL_law_1333 rfl (lv_at hl 0 rfl) ?_
  refine lv_iload_n hx hb dL_law_1334 rfl (lv_at hl 3 rfl) ?_
  refine lv_iconst (v := 1) hx hb dL_law_1335 (by decide) ?_
  refine lv_iadd hx hb dL_law_1336 ?_
  refine lv_topi (fun xz1 exz1 => ?_)
  obtain rfl : xz1 = 1 := exz1.trans (by decide)
  refine va_sld hx hb hX hbl hbA hS (by rw [hL6]; unfold vp_in; decide) dL_law_1337 ?_
  refine W.eq (g2 := F0 m 1338 ls [.int (xs 1), .ref (q 0)]) rfl ?_
  refine lv_aload_n hx hb dL_law_1338 rfl (lv_at hl 0 rfl) ?_
  refine lv_iload_n hx hb dL_law_1339 rfl (lv_at hl 3 rfl) ?_
  refine lv_iconst (v := 2) hx hb dL_law_1340 (by decide) ?_
  refine lv_iadd hx hb dL_law_1341 ?_
  refine lv_topi (fun xz2 exz2 => ?_)
  obtain rfl : xz2 = 2 := exz2.trans (by decide)
  refine va_sld hx hb hX hbl hbA hS (by rw [hL6]; unfold vp_in; decide) dL_law_1342 ?_
  refine W.eq (g2 := F0 m 1343 ls [.int (xs 2), .int (xs 1), .ref (q 0)]) rfl ?_
  have hPc := hP.sub (ws' := [((q 0), .inr (11, [.ref (q 1), .ref (q 2), .ref (q 3), .ref (q 4), .ref (q 5), .ref (q 6), .ref (q 7), .ref (q 8), .ref (q 9), .ref (q 10), .ref (q 11), .ref (q 12), .ref (q 13), .ref (q 14), .ref (q 15)])), ((q 2), .inr (10, [.ref (q 25), .ref (q 26), .ref (q 27), .ref (q 28), .ref (q 29), .ref (q 30), .ref (q 31), .int 0, .int 0, .int 0, .int 0, .int 0, .int 0, .int 0, .int 0, .int 0]))]) [0, 11] rfl
  have hKc := hK.sub (tys' := []) [] rfl
  refine vp_callSi (va_Run.run (va_runV (As := [.int (xs 1), .int (xs 2)]) (rest := []) ⟨hx, hb, hml, hown, hts⟩ (f_X11_surely l dC dI ((q 0)) ((q 1)) ((q 2)) ((q 3)) ((q 4)) ((q 5)) ((q 6)) ((q 7)) ((q 8)) ((q 9)) ((q 10)) ((q 11)) ((q 12)) ((q 13)) ((q 14)) ((q 15)) ((q 25)) ((q 26)) ((q 27)) ((q 28)) ((q 29)) ((q 30)) ((q 31)) ((xs 1)) ((xs 2))) (cwV 2 hts (gk_V tw_950 tw_951 tw_952 tw_157 wki_f_X11_surely wkg_f_X11_surely) rfl rfl rfl (by decide +kernel) ⟨Nat.le_of_ble_eq_true rfl, Nat.le_of_ble_eq_true rfl⟩) ⟨fun a U g mk q => by obtain ⟨q0, qP, qK⟩ := q; exact ⟨q0, qP, va_K.moved (u := U) (U := U.calling g mk a) (Vm.Alike.refl U.vm) qK⟩, va_recv hKc hPc (ci := 11) (q0 := 0) rfl rfl, fun U hU hW => ⟨rfl, by rw [hU]; exact hPc, va_K.moved hW.alike hKc⟩⟩ rfl rfl hl.1 rfl (lv_room (Nat.le_of_ble_eq_true rfl)) dL_law_1343 ⟨Nat.le_of_ble_eq_true rfl, Nat.le_of_ble_eq_true rfl⟩)) (fun oz4 gz3 => ?_)
  obtain rfl := gz3
  refine lv_aload_n hx hb dL_law_1346 rfl (lv_at hl 2 rfl) ?_
  refine lv_aload_n hx hb dL_law_1347 rfl (lv_at hl 0 rfl) ?_
  refine lv_iload_n hx hb dL_law_1348 rfl (lv_at hl 3 rfl) ?_
  refine lv_iconst (v := 1) hx hb dL_law_1349 (by decide) ?_
  refine lv_iadd hx hb dL_law_1350 ?_
  refine lv_topi (fun xz5 exz5 => ?_)
  obtain rfl : xz5 = 1 := exz5.trans (by decide)
  refine va_sld hx hb hX hbl hbA hS (by rw [hL6]; unfold vp_in; decide) dL_law_1351 ?_
  refine W.eq (g2 := F0 m 1352 ls [.int (xs 1), .ref (r 0), .int (-2)]) rfl ?_
  refine lv_aload_n hx hb dL_law_1352 rfl (lv_at hl 0 rfl) ?_
  refine lv_iload_n hx hb dL_law_1353 rfl (lv_at hl 3 rfl) ?_
  refine lv_iconst (v := 2) hx hb dL_law_1354 (by decide) ?_
  refine lv_iadd hx hb dL_law_1355 ?_
  refine lv_topi (fun xz6 exz6 => ?_)
  obtain rfl : xz6 = 2 := exz6.trans (by decide)
  refine va_sld hx hb hX hbl hbA hS (by rw [hL6]; unfold vp_in; decide) dL_law_1356 ?_
  refine W.eq (g2 := F0 m 1357 ls [.int (xs 2), .int (xs 1), .ref (r 0), .int (-2)]) rfl ?_
  have hPc := hP.sub (ws' := [((r 0), .inr (12, [.int 0, .ref (r 1), .ref (r 2), .ref (r 3), .ref (r 4), .ref (r 5), .int 0, .int 0, .int 0, .int 0, .int 0, .long 0, .int 0, .int 0, .int 0, .int (-1), .ref (r 6), .ref (r 7), .ref (r 8), .ref (r 9), .ref (r 10), .ref (r 11), .ref (r 12), .ref (r 13), .int 0, .int 0, .int 0, .ref (r 14), .ref (r 15), .ref (r 16), .ref (r 17), .ref (r 18), .ref (r 19), .ref (r 20), .ref (r 21), .ref (r 22), .ref (r 23), .ref (r 24), .ref (r 25), .ref (r 26), .ref (r 27), .ref (r 28), .ref (r 29), .int 0, .int 0, .int 0, .ref (r 30), .int 0, .int 0, .int 0, .int 0, .int 0, .int 0, .ref (r 31), .int 0, .int 0, .int 0, .ref (r 32), .ref (r 33)])), ((r 6), .inl ((j 4), 5, .inl (fun _ => 0))), ((r 7), .inl ((j 5), 40, .inl (fun _ => 0)))]) [78, 83, 84] rfl
  have hKc := hK.sub (tys' := [((j 4), .int), ((j 5), .int)]) [60, 61] rfl
  have hDc := hD.sub (ws' := [((r 0), .inr (12, [.int 0, .ref (r 1), .ref (r 2), .ref (r 3), .ref (r 4), .ref (r 5), .int 0, .int 0, .int 0, .int 0, .int 0, .long 0, .int 0, .int 0, .int 0, .int (-1), .ref (r 6), .ref (r 7), .ref (r 8), .ref (r 9), .ref (r 10), .ref (r 11), .ref (r 12), .ref (r 13), .int 0, .int 0, .int 0, .ref (r 14), .ref (r 15), .ref (r 16), .ref (r 17), .ref (r 18), .ref (r 19), .ref (r 20), .ref (r 21), .ref (r 22), .ref (r 23), .ref (r 24), .ref (r 25), .ref (r 26), .ref (r 27), .ref (r 28), .ref (r 29), .int 0, .int 0, .int 0, .ref (r 30), .int 0, .int 0, .int 0, .int 0, .int 0, .int 0, .ref (r 31), .int 0, .int 0, .int 0, .ref (r 32), .ref (r 33)])), ((r 6), .inl ((j 4), 5, .inl (fun _ => 0))), ((r 7), .inl ((j 5), 40, .inl (fun _ => 0)))]) [78, 83, 84] (by decide) rfl
  have hFc := va_free (wc := [((r 0), .inr (12, [.int 0, .ref (r 1), .ref (r 2), .ref (r 3), .ref (r 4), .ref (r 5), .int 0, .int 0, .int 0, .int 0, .int 0, .long 0, .int 0, .int 0, .int 0, .int (-1), .ref (r 6), .ref (r 7), .ref (r 8), .ref (r 9), .ref (r 10), .ref (r 11), .ref (r 12), .ref (r 13), .int 0, .int 0, .int 0, .ref (r 14), .ref (r 15), .ref (r 16), .ref (r 17), .ref (r 18), .ref (r 19), .ref (r 20), .ref (r 21), .ref (r 22), .ref (r 23), .ref (r 24), .ref (r 25), .ref (r 26), .ref (r 27), .ref (r 28), .ref (r 29), .int 0, .int 0, .int 0, .ref (r 30), .int 0, .int 0, .int 0, .int 0, .int 0, .int 0, .ref (r 31), .int 0, .int 0, .int 0, .ref (r 32), .ref (r 33)])), ((r 6), .inl ((j 4), 5, .inl (fun _ => 0))), ((r 7), .inl ((j 5), 40, .inl (fun _ => 0)))]) hD hS hA [78, 83, 84] rfl
  refine va_calli (va_runV (As := [.int (xs 1), .int (xs 2)]) (rest := [.int (-2)]) ⟨hx, hb, hml, hown, hts⟩ (f_X12_surely l dC dI H.size ((r 0)) ((r 1)) ((r 2)) ((r 3)) ((r 4)) ((r 5)) ((r 6)) ((r 7)) ((r 8)) ((r 9)) ((r 10)) ((r 11)) ((r 12)) ((r 13)) ((r 14)) ((r 15)) ((r 16)) ((r 17)) ((r 18)) ((r 19)) ((r 20)) ((r 21)) ((r 22)) ((r 23)) ((r 24)) ((r 25)) ((r 26)) ((r 27)) ((r 28)) ((r 29)) ((r 30)) ((r 31)) ((r 32)) ((r 33)) ((j 4)) ((j 5)) ((xs 1)) ((xs 2))) (cwV 2 hts (gk_V tw_953 tw_954 tw_955 tw_505 wki_f_X12_surely wkg_f_X12_surely) rfl rfl rfl (by decide +kernel) ⟨Nat.le_of_ble_eq_true rfl, Nat.le_of_ble_eq_true rfl⟩) ⟨fun a U g mk q => by obtain ⟨q0, q1, qP, qK, qD⟩ := q; exact ⟨q0, q1, qP, va_K.moved (u := U) (U := U.calling g mk a) (Vm.Alike.refl U.vm) qK, qD⟩, va_recv hKc hPc (ci := 12) (q0 := 0) rfl rfl, fun U hU hW => ⟨rfl, by rw [hU], by rw [hU]; exact hPc, va_K.moved hW.alike hKc, hDc.weaken (fun _ _ _ _ => trivial)⟩⟩ rfl rfl hl.1 rfl (lv_room (Nat.le_of_ble_eq_true rfl)) dL_law_1357 ⟨Nat.le_of_ble_eq_true rfl, Nat.le_of_ble_eq_true rfl⟩) hS (fun q _ h => hFc q h) hFc (fun oz8 u t H1 locs ht hvm gz7 hB hz1 hk1 hS => ?_)
  generalize H1 = H at hS ⊢
  refine W.widen (k := 305) (n := 4995) (Nat.le_of_ble_eq_true rfl) (Nat.le_of_ble_eq_true rfl) ?_
  obtain rfl := gz7
  refine lv_icmp_eq (tgt := 2293) hx hb dL_law_1360 (by decide) (fun cz9 => ?_) (fun cz9 => ?_)
  · skip
    exact law_end (dC := dC) (dI := dI) (Nat.le_of_eq hL6) C0 A hAe (q 0) (r 0) H locs hS ls hl
  · skip
    exact absurd cz9 (by decide)
set_option maxHeartbeats 4000000 in
set_option maxRecDepth 100000 in
theorem law_case_43 {p : Program} {l : Launch} {e : Env} {s : State} {m : MethodId} {below : List Frame} {meth : Method} {c : Code} {dC : Nat → ClassId} {dI : Nat → Nat → Nat} {b L : Nat} {xs : Nat → Int32} (hL6 : L = 6) (C0 : lw_At p s m meth c b L xs) (A : Nat → Prop) (hAe : A = fun q => s.heap.size ≤ q) (q r : Nat → Nat) (k j : Nat → ClassId) (H : Heap) (locs : List Loc) (hK : va_K (dC, dI) vwCl (tX k ++ tM j) s) (hP : va_P (dC, dI) vwCl (wX q k ++ wM r j) H) (hD : va_D A (wX q k ++ wM r j)) (hS : va_S A s.heap H locs) (ls : Array Slot) (hl : lv_has ls 4 [(0, .ref b), (1, .ref (q 0)), (2, .ref (r 0)), (3, .int 0)]) : W p l e room_1 s m #[Value.ref b] below meth c H locs 305 4995 (lw_Z below #[Value.ref b] s) (F0 m 1365 ls []) := by
  obtain ⟨hx, hb, hr, hml, hown, hts, hX, hbl, hlocks, hgv⟩ := id C0
  have hown : s.vm.findClass RL = some m.cls := hown
  have hA : ∀ q : Nat, s.heap.size ≤ q → A q := by rw [hAe]; exact fun _ h => h
  have hbA : ¬ A b := by rw [hAe]; exact Nat.not_le.mpr hbl
  refine lv_aload_n hx hb dL_law_1365 rfl (lv_at hl 1 rfl) ?_
  refine lv_aload_n hx hb dL_law_1366 rfl (lv_at hl 0 rfl) ?_
  refine lv_iload_n hx hb dL_law_1367 rfl (lv_at hl 3 rfl) ?_
  refine lv_iconst (v := 1) hx hb dL_law_1368 (by decide) ?_
  refine lv_iadd hx hb dL_law_1369 ?_
  refine lv_topi (fun xz1 exz1 => ?_)
  obtain rfl : xz1 = 1 := exz1.trans (by decide)
  refine va_sld hx hb hX hbl hbA hS (by rw [hL6]; unfold vp_in; decide) dL_law_1370 ?_
  refine W.eq (g2 := F0 m 1371 ls [.int (xs 1), .ref (q 0)]) rfl ?_
  refine lv_aload_n hx hb dL_law_1371 rfl (lv_at hl 0 rfl) ?_
  refine lv_iload_n hx hb dL_law_1372 rfl (lv_at hl 3 rfl) ?_
  refine lv_iconst (v := 2) hx hb dL_law_1373 (by decide) ?_
  refine lv_iadd hx hb dL_law_1374 ?_
  refine lv_topi (fun xz2 exz2 => ?_)
  obtain rfl : xz2 = 2 := exz2.trans (by decide)
  refine va_sld hx hb hX hbl hbA hS (by rw [hL6]; unfold vp_in; decide) dL_law_1375 ?_
  refine W.eq (g2 := F0 m 1376 ls [.int (xs 2), .int (xs 1), .ref (q 0)]) rfl ?_
  have hPc := hP.sub (ws' := [((q 0), .inr (11, [.ref (q 1), .ref (q 2), .ref (q 3), .ref (q 4), .ref (q 5), .ref (q 6), .ref (q 7), .ref (q 8), .ref (q 9), .ref (q 10), .ref (q 11), .ref (q 12), .ref (q 13), .ref (q 14), .ref (q 15)])), ((q 2), .inr (10, [.ref (q 25), .ref (q 26), .ref (q 27), .ref (q 28), .ref (q 29), .ref (q 30), .ref (q 31), .int 0, .int 0, .int 0, .int 0, .int 0, .int 0, .int 0, .int 0, .int 0]))]) [0, 11] rfl
  have hKc := hK.sub (tys' := []) [] rfl
  refine vp_callSi (va_Run.run (va_runV (As := [.int (xs 1), .int (xs 2)]) (rest := []) ⟨hx, hb, hml, hown, hts⟩ (f_X11_never l dC dI ((q 0)) ((q 1)) ((q 2)) ((q 3)) ((q 4)) ((q 5)) ((q 6)) ((q 7)) ((q 8)) ((q 9)) ((q 10)) ((q 11)) ((q 12)) ((q 13)) ((q 14)) ((q 15)) ((q 25)) ((q 26)) ((q 27)) ((q 28)) ((q 29)) ((q 30)) ((q 31)) ((xs 1)) ((xs 2))) (cwV 2 hts (gk_V tw_956 tw_957 tw_958 tw_157 wki_f_X11_never wkg_f_X11_never) rfl rfl rfl (by decide +kernel) ⟨Nat.le_of_ble_eq_true rfl, Nat.le_of_ble_eq_true rfl⟩) ⟨fun a U g mk q => by obtain ⟨q0, qP, qK⟩ := q; exact ⟨q0, qP, va_K.moved (u := U) (U := U.calling g mk a) (Vm.Alike.refl U.vm) qK⟩, va_recv hKc hPc (ci := 11) (q0 := 0) rfl rfl, fun U hU hW => ⟨rfl, by rw [hU]; exact hPc, va_K.moved hW.alike hKc⟩⟩ rfl rfl hl.1 rfl (lv_room (Nat.le_of_ble_eq_true rfl)) dL_law_1376 ⟨Nat.le_of_ble_eq_true rfl, Nat.le_of_ble_eq_true rfl⟩)) (fun oz4 gz3 => ?_)
  obtain rfl := gz3
  refine lv_aload_n hx hb dL_law_1379 rfl (lv_at hl 2 rfl) ?_
  refine lv_aload_n hx hb dL_law_1380 rfl (lv_at hl 0 rfl) ?_
  refine lv_iload_n hx hb dL_law_1381 rfl (lv_at hl 3 rfl) ?_
  refine lv_iconst (v := 1) hx hb dL_law_1382 (by decide) ?_
  refine lv_iadd hx hb dL_law_1383 ?_
  refine lv_topi (fun xz5 exz5 => ?_)
  obtain rfl : xz5 = 1 := exz5.trans (by decide)
  refine va_sld hx hb hX hbl hbA hS (by rw [hL6]; unfold vp_in; decide) dL_law_1384 ?_
  refine W.eq (g2 := F0 m 1385 ls [.int (xs 1), .ref (r 0), .int (-2)]) rfl ?_
  refine lv_aload_n hx hb dL_law_1385 rfl (lv_at hl 0 rfl) ?_
  refine lv_iload_n hx hb dL_law_1386 rfl (lv_at hl 3 rfl) ?_
  refine lv_iconst (v := 2) hx hb dL_law_1387 (by decide) ?_
  refine lv_iadd hx hb dL_law_1388 ?_
  refine lv_topi (fun xz6 exz6 => ?_)
  obtain rfl : xz6 = 2 := exz6.trans (by decide)
  refine va_sld hx hb hX hbl hbA hS (by rw [hL6]; unfold vp_in; decide) dL_law_1389 ?_
  refine W.eq (g2 := F0 m 1390 ls [.int (xs 2), .int (xs 1), .ref (r 0), .int (-2)]) rfl ?_
  have hPc := hP.sub (ws' := [((r 0), .inr (12, [.int 0, .ref (r 1), .ref (r 2), .ref (r 3), .ref (r 4), .ref (r 5), .int 0, .int 0, .int 0, .int 0, .int 0, .long 0, .int 0, .int 0, .int 0, .int (-1), .ref (r 6), .ref (r 7), .ref (r 8), .ref (r 9), .ref (r 10), .ref (r 11), .ref (r 12), .ref (r 13), .int 0, .int 0, .int 0, .ref (r 14), .ref (r 15), .ref (r 16), .ref (r 17), .ref (r 18), .ref (r 19), .ref (r 20), .ref (r 21), .ref (r 22), .ref (r 23), .ref (r 24), .ref (r 25), .ref (r 26), .ref (r 27), .ref (r 28), .ref (r 29), .int 0, .int 0, .int 0, .ref (r 30), .int 0, .int 0, .int 0, .int 0, .int 0, .int 0, .ref (r 31), .int 0, .int 0, .int 0, .ref (r 32), .ref (r 33)])), ((r 6), .inl ((j 4), 5, .inl (fun _ => 0))), ((r 7), .inl ((j 5), 40, .inl (fun _ => 0)))]) [78, 83, 84] rfl
  have hKc := hK.sub (tys' := [((j 4), .int), ((j 5), .int)]) [60, 61] rfl
  have hDc := hD.sub (ws' := [((r 0), .inr (12, [.int 0, .ref (r 1), .ref (r 2), .ref (r 3), .ref (r 4), .ref (r 5), .int 0, .int 0, .int 0, .int 0, .int 0, .long 0, .int 0, .int 0, .int 0, .int (-1), .ref (r 6), .ref (r 7), .ref (r 8), .ref (r 9), .ref (r 10), .ref (r 11), .ref (r 12), .ref (r 13), .int 0, .int 0, .int 0, .ref (r 14), .ref (r 15), .ref (r 16), .ref (r 17), .ref (r 18), .ref (r 19), .ref (r 20), .ref (r 21), .ref (r 22), .ref (r 23), .ref (r 24), .ref (r 25), .ref (r 26), .ref (r 27), .ref (r 28), .ref (r 29), .int 0, .int 0, .int 0, .ref (r 30), .int 0, .int 0, .int 0, .int 0, .int 0, .int 0, .ref (r 31), .int 0, .int 0, .int 0, .ref (r 32), .ref (r 33)])), ((r 6), .inl ((j 4), 5, .inl (fun _ => 0))), ((r 7), .inl ((j 5), 40, .inl (fun _ => 0)))]) [78, 83, 84] (by decide) rfl
  have hFc := va_free (wc := [((r 0), .inr (12, [.int 0, .ref (r 1), .ref (r 2), .ref (r 3), .ref (r 4), .ref (r 5), .int 0, .int 0, .int 0, .int 0, .int 0, .long 0, .int 0, .int 0, .int 0, .int (-1), .ref (r 6), .ref (r 7), .ref (r 8), .ref (r 9), .ref (r 10), .ref (r 11), .ref (r 12), .ref (r 13), .int 0, .int 0, .int 0, .ref (r 14), .ref (r 15), .ref (r 16), .ref (r 17), .ref (r 18), .ref (r 19), .ref (r 20), .ref (r 21), .ref (r 22), .ref (r 23), .ref (r 24), .ref (r 25), .ref (r 26), .ref (r 27), .ref (r 28), .ref (r 29), .int 0, .int 0, .int 0, .ref (r 30), .int 0, .int 0, .int 0, .int 0, .int 0, .int 0, .ref (r 31), .int 0, .int 0, .int 0, .ref (r 32), .ref (r 33)])), ((r 6), .inl ((j 4), 5, .inl (fun _ => 0))), ((r 7), .inl ((j 5), 40, .inl (fun _ => 0)))]) hD hS hA [78, 83, 84] rfl
  refine va_calli (va_runV (As := [.int (xs 1), .int (xs 2)]) (rest := [.int (-2)]) ⟨hx, hb, hml, hown, hts⟩ (f_X12_never l dC dI H.size ((r 0)) ((r 1)) ((r 2)) ((r 3)) ((r 4)) ((r 5)) ((r 6)) ((r 7)) ((r 8)) ((r 9)) ((r 10)) ((r 11)) ((r 12)) ((r 13)) ((r 14)) ((r 15)) ((r 16)) ((r 17)) ((r 18)) ((r 19)) ((r 20)) ((r 21)) ((r 22)) ((r 23)) ((r 24)) ((r 25)) ((r 26)) ((r 27)) ((r 28)) ((r 29)) ((r 30)) ((r 31)) ((r 32)) ((r 33)) ((j 4)) ((j 5)) ((xs 1)) ((xs 2))) (cwV 2 hts (gk_V tw_959 tw_960 tw_961 tw_505 wki_f_X12_never wkg_f_X12_never) rfl rfl rfl (by decide +kernel) ⟨Nat.le_of_ble_eq_true rfl, Nat.le_of_ble_eq_true rfl⟩) ⟨fun a U g mk q => by obtain ⟨q0, q1, qP, qK, qD⟩ := q; exact ⟨q0, q1, qP, va_K.moved (u := U) (U := U.calling g mk a) (Vm.Alike.refl U.vm) qK, qD⟩, va_recv hKc hPc (ci := 12) (q0 := 0) rfl rfl, fun U hU hW => ⟨rfl, by rw [hU], by rw [hU]; exact hPc, va_K.moved hW.alike hKc, hDc.weaken (fun _ _ _ _ => trivial)⟩⟩ rfl rfl hl.1 rfl (lv_room (Nat.le_of_ble_eq_true rfl)) dL_law_1390 ⟨Nat.le_of_ble_eq_true rfl, Nat.le_of_ble_eq_true rfl⟩) hS (fun q _ h => hFc q h) hFc (fun oz8 u t H1 locs ht hvm gz7 hB hz1 hk1 hS => ?_)
  generalize H1 = H at hS ⊢
  refine W.widen (k := 305) (n := 4995) (Nat.le_of_ble_eq_true rfl) (Nat.le_of_ble_eq_true rfl) ?_
  obtain rfl := gz7
  refine lv_icmp_eq (tgt := 2293) hx hb dL_law_1393 (by decide) (fun cz9 => ?_) (fun cz9 => ?_)
  · skip
    exact law_end (dC := dC) (dI := dI) (Nat.le_of_eq hL6) C0 A hAe (q 0) (r 0) H locs hS ls hl
  · skip
    exact absurd cz9 (by decide)
set_option maxHeartbeats 4000000 in
set_option maxRecDepth 100000 in
theorem law_case_44 {p : Program} {l : Launch} {e : Env} {s : State} {m : MethodId} {below : List Frame} {meth : Method} {c : Code} {dC : Nat → ClassId} {dI : Nat → Nat → Nat} {b L : Nat} {xs : Nat → Int32} (hL6 : L = 6) (C0 : lw_At p s m meth c b L xs) (A : Nat → Prop) (hAe : A = fun q => s.heap.size ≤ q) (q r : Nat → Nat) (k j : Nat → ClassId) (H : Heap) (locs : List Loc) (hK : va_K (dC, dI) vwCl (tX k ++ tM j) s) (hP : va_P (dC, dI) vwCl (wX q k ++ wM r j) H) (hD : va_D A (wX q k ++ wM r j)) (hS : va_S A s.heap H locs) (ls : Array Slot) (hl : lv_has ls 4 [(0, .ref b), (1, .ref (q 0)), (2, .ref (r 0)), (3, .int 0)]) : W p l e room_1 s m #[Value.ref b] below meth c H locs 305 4995 (lw_Z below #[Value.ref b] s) (F0 m 1398 ls []) := by
  obtain ⟨hx, hb, hr, hml, hown, hts, hX, hbl, hlocks, hgv⟩ := id C0
  have hown : s.vm.findClass RL = some m.cls := hown
  have hA : ∀ q : Nat, s.heap.size ≤ q → A q := by rw [hAe]; exact fun _ h => h
  have hbA : ¬ A b := by rw [hAe]; exact Nat.not_le.mpr hbl
  refine lv_aload_n hx hb dL_law_1398 rfl (lv_at hl 1 rfl) ?_
  refine lv_aload_n hx hb dL_law_1399 rfl (lv_at hl 0 rfl) ?_
  refine lv_iload_n hx hb dL_law_1400 rfl (lv_at hl 3 rfl) ?_
  refine lv_iconst (v := 1) hx hb dL_law_1401 (by decide) ?_
  refine lv_iadd hx hb dL_law_1402 ?_
  refine lv_topi (fun xz1 exz1 => ?_)
  obtain rfl : xz1 = 1 := exz1.trans (by decide)
  refine va_sld hx hb hX hbl hbA hS (by rw [hL6]; unfold vp_in; decide) dL_law_1403 ?_
  refine W.eq (g2 := F0 m 1404 ls [.int (xs 1), .ref (q 0)]) rfl ?_
  refine lv_aload_n hx hb dL_law_1404 rfl (lv_at hl 0 rfl) ?_
  refine lv_iload_n hx hb dL_law_1405 rfl (lv_at hl 3 rfl) ?_
  refine lv_iconst (v := 2) hx hb dL_law_1406 (by decide) ?_
  refine lv_iadd hx hb dL_law_1407 ?_
  refine lv_topi (fun xz2 exz2 => ?_)
  obtain rfl : xz2 = 2 := exz2.trans (by decide)
  refine va_sld hx hb hX hbl hbA hS (by rw [hL6]; unfold vp_in; decide) dL_law_1408 ?_
  refine W.eq (g2 := F0 m 1409 ls [.int (xs 2), .int (xs 1), .ref (q 0)]) rfl ?_
  have hPc := hP.sub (ws' := [((q 0), .inr (11, [.ref (q 1), .ref (q 2), .ref (q 3), .ref (q 4), .ref (q 5), .ref (q 6), .ref (q 7), .ref (q 8), .ref (q 9), .ref (q 10), .ref (q 11), .ref (q 12), .ref (q 13), .ref (q 14), .ref (q 15)])), ((q 2), .inr (10, [.ref (q 25), .ref (q 26), .ref (q 27), .ref (q 28), .ref (q 29), .ref (q 30), .ref (q 31), .int 0, .int 0, .int 0, .int 0, .int 0, .int 0, .int 0, .int 0, .int 0]))]) [0, 11] rfl
  have hKc := hK.sub (tys' := []) [] rfl
  refine vp_callSi (va_Run.run (va_runV (As := [.int (xs 1), .int (xs 2)]) (rest := []) ⟨hx, hb, hml, hown, hts⟩ (f_X11_fewest l dC dI ((q 0)) ((q 1)) ((q 2)) ((q 3)) ((q 4)) ((q 5)) ((q 6)) ((q 7)) ((q 8)) ((q 9)) ((q 10)) ((q 11)) ((q 12)) ((q 13)) ((q 14)) ((q 15)) ((q 25)) ((q 26)) ((q 27)) ((q 28)) ((q 29)) ((q 30)) ((q 31)) ((xs 1)) ((xs 2))) (cwV 2 hts (gk_V tw_962 tw_963 tw_964 tw_157 wki_f_X11_fewest wkg_f_X11_fewest) rfl rfl rfl (by decide +kernel) ⟨Nat.le_of_ble_eq_true rfl, Nat.le_of_ble_eq_true rfl⟩) ⟨fun a U g mk q => by obtain ⟨q0, qP, qK⟩ := q; exact ⟨q0, qP, va_K.moved (u := U) (U := U.calling g mk a) (Vm.Alike.refl U.vm) qK⟩, va_recv hKc hPc (ci := 11) (q0 := 0) rfl rfl, fun U hU hW => ⟨rfl, by rw [hU]; exact hPc, va_K.moved hW.alike hKc⟩⟩ rfl rfl hl.1 rfl (lv_room (Nat.le_of_ble_eq_true rfl)) dL_law_1409 ⟨Nat.le_of_ble_eq_true rfl, Nat.le_of_ble_eq_true rfl⟩)) (fun oz4 gz3 => ?_)
  obtain rfl := gz3
  refine lv_aload_n hx hb dL_law_1412 rfl (lv_at hl 2 rfl) ?_
  refine lv_aload_n hx hb dL_law_1413 rfl (lv_at hl 0 rfl) ?_
  refine lv_iload_n hx hb dL_law_1414 rfl (lv_at hl 3 rfl) ?_
  refine lv_iconst (v := 1) hx hb dL_law_1415 (by decide) ?_
  refine lv_iadd hx hb dL_law_1416 ?_
  refine lv_topi (fun xz5 exz5 => ?_)
  obtain rfl : xz5 = 1 := exz5.trans (by decide)
  refine va_sld hx hb hX hbl hbA hS (by rw [hL6]; unfold vp_in; decide) dL_law_1417 ?_
  refine W.eq (g2 := F0 m 1418 ls [.int (xs 1), .ref (r 0), .int (-2)]) rfl ?_
  refine lv_aload_n hx hb dL_law_1418 rfl (lv_at hl 0 rfl) ?_
  refine lv_iload_n hx hb dL_law_1419 rfl (lv_at hl 3 rfl) ?_
  refine lv_iconst (v := 2) hx hb dL_law_1420 (by decide) ?_
  refine lv_iadd hx hb dL_law_1421 ?_
  refine lv_topi (fun xz6 exz6 => ?_)
  obtain rfl : xz6 = 2 := exz6.trans (by decide)
  refine va_sld hx hb hX hbl hbA hS (by rw [hL6]; unfold vp_in; decide) dL_law_1422 ?_
  refine W.eq (g2 := F0 m 1423 ls [.int (xs 2), .int (xs 1), .ref (r 0), .int (-2)]) rfl ?_
  have hPc := hP.sub (ws' := [((r 0), .inr (12, [.int 0, .ref (r 1), .ref (r 2), .ref (r 3), .ref (r 4), .ref (r 5), .int 0, .int 0, .int 0, .int 0, .int 0, .long 0, .int 0, .int 0, .int 0, .int (-1), .ref (r 6), .ref (r 7), .ref (r 8), .ref (r 9), .ref (r 10), .ref (r 11), .ref (r 12), .ref (r 13), .int 0, .int 0, .int 0, .ref (r 14), .ref (r 15), .ref (r 16), .ref (r 17), .ref (r 18), .ref (r 19), .ref (r 20), .ref (r 21), .ref (r 22), .ref (r 23), .ref (r 24), .ref (r 25), .ref (r 26), .ref (r 27), .ref (r 28), .ref (r 29), .int 0, .int 0, .int 0, .ref (r 30), .int 0, .int 0, .int 0, .int 0, .int 0, .int 0, .ref (r 31), .int 0, .int 0, .int 0, .ref (r 32), .ref (r 33)])), ((r 6), .inl ((j 4), 5, .inl (fun _ => 0))), ((r 7), .inl ((j 5), 40, .inl (fun _ => 0)))]) [78, 83, 84] rfl
  have hKc := hK.sub (tys' := [((j 4), .int), ((j 5), .int)]) [60, 61] rfl
  have hDc := hD.sub (ws' := [((r 0), .inr (12, [.int 0, .ref (r 1), .ref (r 2), .ref (r 3), .ref (r 4), .ref (r 5), .int 0, .int 0, .int 0, .int 0, .int 0, .long 0, .int 0, .int 0, .int 0, .int (-1), .ref (r 6), .ref (r 7), .ref (r 8), .ref (r 9), .ref (r 10), .ref (r 11), .ref (r 12), .ref (r 13), .int 0, .int 0, .int 0, .ref (r 14), .ref (r 15), .ref (r 16), .ref (r 17), .ref (r 18), .ref (r 19), .ref (r 20), .ref (r 21), .ref (r 22), .ref (r 23), .ref (r 24), .ref (r 25), .ref (r 26), .ref (r 27), .ref (r 28), .ref (r 29), .int 0, .int 0, .int 0, .ref (r 30), .int 0, .int 0, .int 0, .int 0, .int 0, .int 0, .ref (r 31), .int 0, .int 0, .int 0, .ref (r 32), .ref (r 33)])), ((r 6), .inl ((j 4), 5, .inl (fun _ => 0))), ((r 7), .inl ((j 5), 40, .inl (fun _ => 0)))]) [78, 83, 84] (by decide) rfl
  have hFc := va_free (wc := [((r 0), .inr (12, [.int 0, .ref (r 1), .ref (r 2), .ref (r 3), .ref (r 4), .ref (r 5), .int 0, .int 0, .int 0, .int 0, .int 0, .long 0, .int 0, .int 0, .int 0, .int (-1), .ref (r 6), .ref (r 7), .ref (r 8), .ref (r 9), .ref (r 10), .ref (r 11), .ref (r 12), .ref (r 13), .int 0, .int 0, .int 0, .ref (r 14), .ref (r 15), .ref (r 16), .ref (r 17), .ref (r 18), .ref (r 19), .ref (r 20), .ref (r 21), .ref (r 22), .ref (r 23), .ref (r 24), .ref (r 25), .ref (r 26), .ref (r 27), .ref (r 28), .ref (r 29), .int 0, .int 0, .int 0, .ref (r 30), .int 0, .int 0, .int 0, .int 0, .int 0, .int 0, .ref (r 31), .int 0, .int 0, .int 0, .ref (r 32), .ref (r 33)])), ((r 6), .inl ((j 4), 5, .inl (fun _ => 0))), ((r 7), .inl ((j 5), 40, .inl (fun _ => 0)))]) hD hS hA [78, 83, 84] rfl
  refine va_calli (va_runV (As := [.int (xs 1), .int (xs 2)]) (rest := [.int (-2)]) ⟨hx, hb, hml, hown, hts⟩ (f_X12_fewest l dC dI H.size ((r 0)) ((r 1)) ((r 2)) ((r 3)) ((r 4)) ((r 5)) ((r 6)) ((r 7)) ((r 8)) ((r 9)) ((r 10)) ((r 11)) ((r 12)) ((r 13)) ((r 14)) ((r 15)) ((r 16)) ((r 17)) ((r 18)) ((r 19)) ((r 20)) ((r 21)) ((r 22)) ((r 23)) ((r 24)) ((r 25)) ((r 26)) ((r 27)) ((r 28)) ((r 29)) ((r 30)) ((r 31)) ((r 32)) ((r 33)) ((j 4)) ((j 5)) ((xs 1)) ((xs 2))) (cwV 2 hts (gk_V tw_965 tw_966 tw_967 tw_505 wki_f_X12_fewest wkg_f_X12_fewest) rfl rfl rfl (by decide +kernel) ⟨Nat.le_of_ble_eq_true rfl, Nat.le_of_ble_eq_true rfl⟩) ⟨fun a U g mk q => by obtain ⟨q0, q1, qP, qK, qD⟩ := q; exact ⟨q0, q1, qP, va_K.moved (u := U) (U := U.calling g mk a) (Vm.Alike.refl U.vm) qK, qD⟩, va_recv hKc hPc (ci := 12) (q0 := 0) rfl rfl, fun U hU hW => ⟨rfl, by rw [hU], by rw [hU]; exact hPc, va_K.moved hW.alike hKc, hDc.weaken (fun _ _ _ _ => trivial)⟩⟩ rfl rfl hl.1 rfl (lv_room (Nat.le_of_ble_eq_true rfl)) dL_law_1423 ⟨Nat.le_of_ble_eq_true rfl, Nat.le_of_ble_eq_true rfl⟩) hS (fun q _ h => hFc q h) hFc (fun oz8 u t H1 locs ht hvm gz7 hB hz1 hk1 hS => ?_)
  generalize H1 = H at hS ⊢
  refine W.widen (k := 305) (n := 4995) (Nat.le_of_ble_eq_true rfl) (Nat.le_of_ble_eq_true rfl) ?_
  obtain rfl := gz7
  refine lv_icmp_eq (tgt := 2293) hx hb dL_law_1426 (by decide) (fun cz9 => ?_) (fun cz9 => ?_)
  · skip
    exact law_end (dC := dC) (dI := dI) (Nat.le_of_eq hL6) C0 A hAe (q 0) (r 0) H locs hS ls hl
  · skip
    exact absurd cz9 (by decide)
set_option maxHeartbeats 4000000 in
set_option maxRecDepth 100000 in
theorem law_case_45 {p : Program} {l : Launch} {e : Env} {s : State} {m : MethodId} {below : List Frame} {meth : Method} {c : Code} {dC : Nat → ClassId} {dI : Nat → Nat → Nat} {b L : Nat} {xs : Nat → Int32} (hL6 : L = 6) (C0 : lw_At p s m meth c b L xs) (A : Nat → Prop) (hAe : A = fun q => s.heap.size ≤ q) (q r : Nat → Nat) (k j : Nat → ClassId) (H : Heap) (locs : List Loc) (hK : va_K (dC, dI) vwCl (tX k ++ tM j) s) (hP : va_P (dC, dI) vwCl (wX q k ++ wM r j) H) (hD : va_D A (wX q k ++ wM r j)) (hS : va_S A s.heap H locs) (ls : Array Slot) (hl : lv_has ls 4 [(0, .ref b), (1, .ref (q 0)), (2, .ref (r 0)), (3, .int 0)]) : W p l e room_1 s m #[Value.ref b] below meth c H locs 305 4995 (lw_Z below #[Value.ref b] s) (F0 m 1431 ls []) := by
  obtain ⟨hx, hb, hr, hml, hown, hts, hX, hbl, hlocks, hgv⟩ := id C0
  have hown : s.vm.findClass RL = some m.cls := hown
  have hA : ∀ q : Nat, s.heap.size ≤ q → A q := by rw [hAe]; exact fun _ h => h
  have hbA : ¬ A b := by rw [hAe]; exact Nat.not_le.mpr hbl
  refine lv_aload_n hx hb dL_law_1431 rfl (lv_at hl 1 rfl) ?_
  refine lv_aload_n hx hb dL_law_1432 rfl (lv_at hl 0 rfl) ?_
  refine lv_iload_n hx hb dL_law_1433 rfl (lv_at hl 3 rfl) ?_
  refine lv_iconst (v := 1) hx hb dL_law_1434 (by decide) ?_
  refine lv_iadd hx hb dL_law_1435 ?_
  refine lv_topi (fun xz1 exz1 => ?_)
  obtain rfl : xz1 = 1 := exz1.trans (by decide)
  refine va_sld hx hb hX hbl hbA hS (by rw [hL6]; unfold vp_in; decide) dL_law_1436 ?_
  refine W.eq (g2 := F0 m 1437 ls [.int (xs 1), .ref (q 0)]) rfl ?_
  refine lv_aload_n hx hb dL_law_1437 rfl (lv_at hl 0 rfl) ?_
  refine lv_iload_n hx hb dL_law_1438 rfl (lv_at hl 3 rfl) ?_
  refine lv_iconst (v := 2) hx hb dL_law_1439 (by decide) ?_
  refine lv_iadd hx hb dL_law_1440 ?_
  refine lv_topi (fun xz2 exz2 => ?_)
  obtain rfl : xz2 = 2 := exz2.trans (by decide)
  refine va_sld hx hb hX hbl hbA hS (by rw [hL6]; unfold vp_in; decide) dL_law_1441 ?_
  refine W.eq (g2 := F0 m 1442 ls [.int (xs 2), .int (xs 1), .ref (q 0)]) rfl ?_
  have hPc := hP.sub (ws' := [((q 0), .inr (11, [.ref (q 1), .ref (q 2), .ref (q 3), .ref (q 4), .ref (q 5), .ref (q 6), .ref (q 7), .ref (q 8), .ref (q 9), .ref (q 10), .ref (q 11), .ref (q 12), .ref (q 13), .ref (q 14), .ref (q 15)])), ((q 2), .inr (10, [.ref (q 25), .ref (q 26), .ref (q 27), .ref (q 28), .ref (q 29), .ref (q 30), .ref (q 31), .int 0, .int 0, .int 0, .int 0, .int 0, .int 0, .int 0, .int 0, .int 0]))]) [0, 11] rfl
  have hKc := hK.sub (tys' := []) [] rfl
  refine vp_callSi (va_Run.run (va_runV (As := [.int (xs 1), .int (xs 2)]) (rest := []) ⟨hx, hb, hml, hown, hts⟩ (f_X11_ask l dC dI ((q 0)) ((q 1)) ((q 2)) ((q 3)) ((q 4)) ((q 5)) ((q 6)) ((q 7)) ((q 8)) ((q 9)) ((q 10)) ((q 11)) ((q 12)) ((q 13)) ((q 14)) ((q 15)) ((q 25)) ((q 26)) ((q 27)) ((q 28)) ((q 29)) ((q 30)) ((q 31)) ((xs 1)) ((xs 2))) (cwV 2 hts (gk_V tw_968 tw_969 tw_970 tw_157 wki_f_X11_ask wkg_f_X11_ask) rfl rfl rfl (by decide +kernel) ⟨Nat.le_of_ble_eq_true rfl, Nat.le_of_ble_eq_true rfl⟩) ⟨fun a U g mk q => by obtain ⟨q0, qP, qK⟩ := q; exact ⟨q0, qP, va_K.moved (u := U) (U := U.calling g mk a) (Vm.Alike.refl U.vm) qK⟩, va_recv hKc hPc (ci := 11) (q0 := 0) rfl rfl, fun U hU hW => ⟨rfl, by rw [hU]; exact hPc, va_K.moved hW.alike hKc⟩⟩ rfl rfl hl.1 rfl (lv_room (Nat.le_of_ble_eq_true rfl)) dL_law_1442 ⟨Nat.le_of_ble_eq_true rfl, Nat.le_of_ble_eq_true rfl⟩)) (fun oz4 gz3 => ?_)
  obtain rfl := gz3
  refine lv_aload_n hx hb dL_law_1445 rfl (lv_at hl 2 rfl) ?_
  refine lv_aload_n hx hb dL_law_1446 rfl (lv_at hl 0 rfl) ?_
  refine lv_iload_n hx hb dL_law_1447 rfl (lv_at hl 3 rfl) ?_
  refine lv_iconst (v := 1) hx hb dL_law_1448 (by decide) ?_
  refine lv_iadd hx hb dL_law_1449 ?_
  refine lv_topi (fun xz5 exz5 => ?_)
  obtain rfl : xz5 = 1 := exz5.trans (by decide)
  refine va_sld hx hb hX hbl hbA hS (by rw [hL6]; unfold vp_in; decide) dL_law_1450 ?_
  refine W.eq (g2 := F0 m 1451 ls [.int (xs 1), .ref (r 0), .int (-2)]) rfl ?_
  refine lv_aload_n hx hb dL_law_1451 rfl (lv_at hl 0 rfl) ?_
  refine lv_iload_n hx hb dL_law_1452 rfl (lv_at hl 3 rfl) ?_
  refine lv_iconst (v := 2) hx hb dL_law_1453 (by decide) ?_
  refine lv_iadd hx hb dL_law_1454 ?_
  refine lv_topi (fun xz6 exz6 => ?_)
  obtain rfl : xz6 = 2 := exz6.trans (by decide)
  refine va_sld hx hb hX hbl hbA hS (by rw [hL6]; unfold vp_in; decide) dL_law_1455 ?_
  refine W.eq (g2 := F0 m 1456 ls [.int (xs 2), .int (xs 1), .ref (r 0), .int (-2)]) rfl ?_
  have hPc := hP.sub (ws' := [((r 0), .inr (12, [.int 0, .ref (r 1), .ref (r 2), .ref (r 3), .ref (r 4), .ref (r 5), .int 0, .int 0, .int 0, .int 0, .int 0, .long 0, .int 0, .int 0, .int 0, .int (-1), .ref (r 6), .ref (r 7), .ref (r 8), .ref (r 9), .ref (r 10), .ref (r 11), .ref (r 12), .ref (r 13), .int 0, .int 0, .int 0, .ref (r 14), .ref (r 15), .ref (r 16), .ref (r 17), .ref (r 18), .ref (r 19), .ref (r 20), .ref (r 21), .ref (r 22), .ref (r 23), .ref (r 24), .ref (r 25), .ref (r 26), .ref (r 27), .ref (r 28), .ref (r 29), .int 0, .int 0, .int 0, .ref (r 30), .int 0, .int 0, .int 0, .int 0, .int 0, .int 0, .ref (r 31), .int 0, .int 0, .int 0, .ref (r 32), .ref (r 33)])), ((r 6), .inl ((j 4), 5, .inl (fun _ => 0))), ((r 7), .inl ((j 5), 40, .inl (fun _ => 0)))]) [78, 83, 84] rfl
  have hKc := hK.sub (tys' := [((j 4), .int), ((j 5), .int)]) [60, 61] rfl
  have hDc := hD.sub (ws' := [((r 0), .inr (12, [.int 0, .ref (r 1), .ref (r 2), .ref (r 3), .ref (r 4), .ref (r 5), .int 0, .int 0, .int 0, .int 0, .int 0, .long 0, .int 0, .int 0, .int 0, .int (-1), .ref (r 6), .ref (r 7), .ref (r 8), .ref (r 9), .ref (r 10), .ref (r 11), .ref (r 12), .ref (r 13), .int 0, .int 0, .int 0, .ref (r 14), .ref (r 15), .ref (r 16), .ref (r 17), .ref (r 18), .ref (r 19), .ref (r 20), .ref (r 21), .ref (r 22), .ref (r 23), .ref (r 24), .ref (r 25), .ref (r 26), .ref (r 27), .ref (r 28), .ref (r 29), .int 0, .int 0, .int 0, .ref (r 30), .int 0, .int 0, .int 0, .int 0, .int 0, .int 0, .ref (r 31), .int 0, .int 0, .int 0, .ref (r 32), .ref (r 33)])), ((r 6), .inl ((j 4), 5, .inl (fun _ => 0))), ((r 7), .inl ((j 5), 40, .inl (fun _ => 0)))]) [78, 83, 84] (by decide) rfl
  have hFc := va_free (wc := [((r 0), .inr (12, [.int 0, .ref (r 1), .ref (r 2), .ref (r 3), .ref (r 4), .ref (r 5), .int 0, .int 0, .int 0, .int 0, .int 0, .long 0, .int 0, .int 0, .int 0, .int (-1), .ref (r 6), .ref (r 7), .ref (r 8), .ref (r 9), .ref (r 10), .ref (r 11), .ref (r 12), .ref (r 13), .int 0, .int 0, .int 0, .ref (r 14), .ref (r 15), .ref (r 16), .ref (r 17), .ref (r 18), .ref (r 19), .ref (r 20), .ref (r 21), .ref (r 22), .ref (r 23), .ref (r 24), .ref (r 25), .ref (r 26), .ref (r 27), .ref (r 28), .ref (r 29), .int 0, .int 0, .int 0, .ref (r 30), .int 0, .int 0, .int 0, .int 0, .int 0, .int 0, .ref (r 31), .int 0, .int 0, .int 0, .ref (r 32), .ref (r 33)])), ((r 6), .inl ((j 4), 5, .inl (fun _ => 0))), ((r 7), .inl ((j 5), 40, .inl (fun _ => 0)))]) hD hS hA [78, 83, 84] rfl
  refine va_calli (va_runV (As := [.int (xs 1), .int (xs 2)]) (rest := [.int (-2)]) ⟨hx, hb, hml, hown, hts⟩ (f_X12_ask l dC dI H.size ((r 0)) ((r 1)) ((r 2)) ((r 3)) ((r 4)) ((r 5)) ((r 6)) ((r 7)) ((r 8)) ((r 9)) ((r 10)) ((r 11)) ((r 12)) ((r 13)) ((r 14)) ((r 15)) ((r 16)) ((r 17)) ((r 18)) ((r 19)) ((r 20)) ((r 21)) ((r 22)) ((r 23)) ((r 24)) ((r 25)) ((r 26)) ((r 27)) ((r 28)) ((r 29)) ((r 30)) ((r 31)) ((r 32)) ((r 33)) ((j 4)) ((j 5)) ((xs 1)) ((xs 2))) (cwV 2 hts (gk_V tw_971 tw_972 tw_973 tw_505 wki_f_X12_ask wkg_f_X12_ask) rfl rfl rfl (by decide +kernel) ⟨Nat.le_of_ble_eq_true rfl, Nat.le_of_ble_eq_true rfl⟩) ⟨fun a U g mk q => by obtain ⟨q0, q1, qP, qK, qD⟩ := q; exact ⟨q0, q1, qP, va_K.moved (u := U) (U := U.calling g mk a) (Vm.Alike.refl U.vm) qK, qD⟩, va_recv hKc hPc (ci := 12) (q0 := 0) rfl rfl, fun U hU hW => ⟨rfl, by rw [hU], by rw [hU]; exact hPc, va_K.moved hW.alike hKc, hDc.weaken (fun _ _ _ _ => trivial)⟩⟩ rfl rfl hl.1 rfl (lv_room (Nat.le_of_ble_eq_true rfl)) dL_law_1456 ⟨Nat.le_of_ble_eq_true rfl, Nat.le_of_ble_eq_true rfl⟩) hS (fun q _ h => hFc q h) hFc (fun oz8 u t H1 locs ht hvm gz7 hB hz1 hk1 hS => ?_)
  generalize H1 = H at hS ⊢
  refine W.widen (k := 305) (n := 4995) (Nat.le_of_ble_eq_true rfl) (Nat.le_of_ble_eq_true rfl) ?_
  obtain rfl := gz7
  refine lv_icmp_eq (tgt := 2293) hx hb dL_law_1459 (by decide) (fun cz9 => ?_) (fun cz9 => ?_)
  · skip
    exact law_end (dC := dC) (dI := dI) (Nat.le_of_eq hL6) C0 A hAe (q 0) (r 0) H locs hS ls hl
  · skip
    exact absurd cz9 (by decide)
set_option maxHeartbeats 4000000 in
set_option maxRecDepth 100000 in
theorem law_case_46 {p : Program} {l : Launch} {e : Env} {s : State} {m : MethodId} {below : List Frame} {meth : Method} {c : Code} {dC : Nat → ClassId} {dI : Nat → Nat → Nat} {b L : Nat} {xs : Nat → Int32} (hL6 : L = 6) (C0 : lw_At p s m meth c b L xs) (A : Nat → Prop) (hAe : A = fun q => s.heap.size ≤ q) (q r : Nat → Nat) (k j : Nat → ClassId) (H : Heap) (locs : List Loc) (hK : va_K (dC, dI) vwCl (tX k ++ tM j) s) (hP : va_P (dC, dI) vwCl (wX q k ++ wM r j) H) (hD : va_D A (wX q k ++ wM r j)) (hS : va_S A s.heap H locs) (ls : Array Slot) (hl : lv_has ls 4 [(0, .ref b), (1, .ref (q 0)), (2, .ref (r 0)), (3, .int 0)]) : W p l e room_1 s m #[Value.ref b] below meth c H locs 305 4995 (lw_Z below #[Value.ref b] s) (F0 m 1464 ls []) := by
  obtain ⟨hx, hb, hr, hml, hown, hts, hX, hbl, hlocks, hgv⟩ := id C0
  have hown : s.vm.findClass RL = some m.cls := hown
  have hA : ∀ q : Nat, s.heap.size ≤ q → A q := by rw [hAe]; exact fun _ h => h
  have hbA : ¬ A b := by rw [hAe]; exact Nat.not_le.mpr hbl
  refine lv_aload_n hx hb dL_law_1464 rfl (lv_at hl 1 rfl) ?_
  refine lv_aload_n hx hb dL_law_1465 rfl (lv_at hl 0 rfl) ?_
  refine lv_iload_n hx hb dL_law_1466 rfl (lv_at hl 3 rfl) ?_
  refine lv_iconst (v := 1) hx hb dL_law_1467 (by decide) ?_
  refine lv_iadd hx hb dL_law_1468 ?_
  refine lv_topi (fun xz1 exz1 => ?_)
  obtain rfl : xz1 = 1 := exz1.trans (by decide)
  refine va_sld hx hb hX hbl hbA hS (by rw [hL6]; unfold vp_in; decide) dL_law_1469 ?_
  refine W.eq (g2 := F0 m 1470 ls [.int (xs 1), .ref (q 0)]) rfl ?_
  refine lv_aload_n hx hb dL_law_1470 rfl (lv_at hl 0 rfl) ?_
  refine lv_iload_n hx hb dL_law_1471 rfl (lv_at hl 3 rfl) ?_
  refine lv_iconst (v := 2) hx hb dL_law_1472 (by decide) ?_
  refine lv_iadd hx hb dL_law_1473 ?_
  refine lv_topi (fun xz2 exz2 => ?_)
  obtain rfl : xz2 = 2 := exz2.trans (by decide)
  refine va_sld hx hb hX hbl hbA hS (by rw [hL6]; unfold vp_in; decide) dL_law_1474 ?_
  refine W.eq (g2 := F0 m 1475 ls [.int (xs 2), .int (xs 1), .ref (q 0)]) rfl ?_
  have hPc := hP.sub (ws' := [((q 0), .inr (11, [.ref (q 1), .ref (q 2), .ref (q 3), .ref (q 4), .ref (q 5), .ref (q 6), .ref (q 7), .ref (q 8), .ref (q 9), .ref (q 10), .ref (q 11), .ref (q 12), .ref (q 13), .ref (q 14), .ref (q 15)])), ((q 2), .inr (10, [.ref (q 25), .ref (q 26), .ref (q 27), .ref (q 28), .ref (q 29), .ref (q 30), .ref (q 31), .int 0, .int 0, .int 0, .int 0, .int 0, .int 0, .int 0, .int 0, .int 0]))]) [0, 11] rfl
  have hKc := hK.sub (tys' := []) [] rfl
  refine vp_callSi (va_Run.run (va_runV (As := [.int (xs 1), .int (xs 2)]) (rest := []) ⟨hx, hb, hml, hown, hts⟩ (f_X11_leaves l dC dI ((q 0)) ((q 1)) ((q 2)) ((q 3)) ((q 4)) ((q 5)) ((q 6)) ((q 7)) ((q 8)) ((q 9)) ((q 10)) ((q 11)) ((q 12)) ((q 13)) ((q 14)) ((q 15)) ((q 25)) ((q 26)) ((q 27)) ((q 28)) ((q 29)) ((q 30)) ((q 31)) ((xs 1)) ((xs 2))) (cwV 2 hts (gk_V tw_974 tw_975 tw_976 tw_157 wki_f_X11_leaves wkg_f_X11_leaves) rfl rfl rfl (by decide +kernel) ⟨Nat.le_of_ble_eq_true rfl, Nat.le_of_ble_eq_true rfl⟩) ⟨fun a U g mk q => by obtain ⟨q0, qP, qK⟩ := q; exact ⟨q0, qP, va_K.moved (u := U) (U := U.calling g mk a) (Vm.Alike.refl U.vm) qK⟩, va_recv hKc hPc (ci := 11) (q0 := 0) rfl rfl, fun U hU hW => ⟨rfl, by rw [hU]; exact hPc, va_K.moved hW.alike hKc⟩⟩ rfl rfl hl.1 rfl (lv_room (Nat.le_of_ble_eq_true rfl)) dL_law_1475 ⟨Nat.le_of_ble_eq_true rfl, Nat.le_of_ble_eq_true rfl⟩)) (fun oz4 gz3 => ?_)
  obtain rfl := gz3
  refine lv_aload_n hx hb dL_law_1478 rfl (lv_at hl 2 rfl) ?_
  refine lv_aload_n hx hb dL_law_1479 rfl (lv_at hl 0 rfl) ?_
  refine lv_iload_n hx hb dL_law_1480 rfl (lv_at hl 3 rfl) ?_
  refine lv_iconst (v := 1) hx hb dL_law_1481 (by decide) ?_
  refine lv_iadd hx hb dL_law_1482 ?_
  refine lv_topi (fun xz5 exz5 => ?_)
  obtain rfl : xz5 = 1 := exz5.trans (by decide)
  refine va_sld hx hb hX hbl hbA hS (by rw [hL6]; unfold vp_in; decide) dL_law_1483 ?_
  refine W.eq (g2 := F0 m 1484 ls [.int (xs 1), .ref (r 0), .int (-2)]) rfl ?_
  refine lv_aload_n hx hb dL_law_1484 rfl (lv_at hl 0 rfl) ?_
  refine lv_iload_n hx hb dL_law_1485 rfl (lv_at hl 3 rfl) ?_
  refine lv_iconst (v := 2) hx hb dL_law_1486 (by decide) ?_
  refine lv_iadd hx hb dL_law_1487 ?_
  refine lv_topi (fun xz6 exz6 => ?_)
  obtain rfl : xz6 = 2 := exz6.trans (by decide)
  refine va_sld hx hb hX hbl hbA hS (by rw [hL6]; unfold vp_in; decide) dL_law_1488 ?_
  refine W.eq (g2 := F0 m 1489 ls [.int (xs 2), .int (xs 1), .ref (r 0), .int (-2)]) rfl ?_
  have hPc := hP.sub (ws' := [((r 0), .inr (12, [.int 0, .ref (r 1), .ref (r 2), .ref (r 3), .ref (r 4), .ref (r 5), .int 0, .int 0, .int 0, .int 0, .int 0, .long 0, .int 0, .int 0, .int 0, .int (-1), .ref (r 6), .ref (r 7), .ref (r 8), .ref (r 9), .ref (r 10), .ref (r 11), .ref (r 12), .ref (r 13), .int 0, .int 0, .int 0, .ref (r 14), .ref (r 15), .ref (r 16), .ref (r 17), .ref (r 18), .ref (r 19), .ref (r 20), .ref (r 21), .ref (r 22), .ref (r 23), .ref (r 24), .ref (r 25), .ref (r 26), .ref (r 27), .ref (r 28), .ref (r 29), .int 0, .int 0, .int 0, .ref (r 30), .int 0, .int 0, .int 0, .int 0, .int 0, .int 0, .ref (r 31), .int 0, .int 0, .int 0, .ref (r 32), .ref (r 33)])), ((r 6), .inl ((j 4), 5, .inl (fun _ => 0))), ((r 7), .inl ((j 5), 40, .inl (fun _ => 0)))]) [78, 83, 84] rfl
  have hKc := hK.sub (tys' := [((j 4), .int), ((j 5), .int)]) [60, 61] rfl
  have hDc := hD.sub (ws' := [((r 0), .inr (12, [.int 0, .ref (r 1), .ref (r 2), .ref (r 3), .ref (r 4), .ref (r 5), .int 0, .int 0, .int 0, .int 0, .int 0, .long 0, .int 0, .int 0, .int 0, .int (-1), .ref (r 6), .ref (r 7), .ref (r 8), .ref (r 9), .ref (r 10), .ref (r 11), .ref (r 12), .ref (r 13), .int 0, .int 0, .int 0, .ref (r 14), .ref (r 15), .ref (r 16), .ref (r 17), .ref (r 18), .ref (r 19), .ref (r 20), .ref (r 21), .ref (r 22), .ref (r 23), .ref (r 24), .ref (r 25), .ref (r 26), .ref (r 27), .ref (r 28), .ref (r 29), .int 0, .int 0, .int 0, .ref (r 30), .int 0, .int 0, .int 0, .int 0, .int 0, .int 0, .ref (r 31), .int 0, .int 0, .int 0, .ref (r 32), .ref (r 33)])), ((r 6), .inl ((j 4), 5, .inl (fun _ => 0))), ((r 7), .inl ((j 5), 40, .inl (fun _ => 0)))]) [78, 83, 84] (by decide) rfl
  have hFc := va_free (wc := [((r 0), .inr (12, [.int 0, .ref (r 1), .ref (r 2), .ref (r 3), .ref (r 4), .ref (r 5), .int 0, .int 0, .int 0, .int 0, .int 0, .long 0, .int 0, .int 0, .int 0, .int (-1), .ref (r 6), .ref (r 7), .ref (r 8), .ref (r 9), .ref (r 10), .ref (r 11), .ref (r 12), .ref (r 13), .int 0, .int 0, .int 0, .ref (r 14), .ref (r 15), .ref (r 16), .ref (r 17), .ref (r 18), .ref (r 19), .ref (r 20), .ref (r 21), .ref (r 22), .ref (r 23), .ref (r 24), .ref (r 25), .ref (r 26), .ref (r 27), .ref (r 28), .ref (r 29), .int 0, .int 0, .int 0, .ref (r 30), .int 0, .int 0, .int 0, .int 0, .int 0, .int 0, .ref (r 31), .int 0, .int 0, .int 0, .ref (r 32), .ref (r 33)])), ((r 6), .inl ((j 4), 5, .inl (fun _ => 0))), ((r 7), .inl ((j 5), 40, .inl (fun _ => 0)))]) hD hS hA [78, 83, 84] rfl
  refine va_calli (va_runV (As := [.int (xs 1), .int (xs 2)]) (rest := [.int (-2)]) ⟨hx, hb, hml, hown, hts⟩ (f_X12_leaves l dC dI H.size ((r 0)) ((r 1)) ((r 2)) ((r 3)) ((r 4)) ((r 5)) ((r 6)) ((r 7)) ((r 8)) ((r 9)) ((r 10)) ((r 11)) ((r 12)) ((r 13)) ((r 14)) ((r 15)) ((r 16)) ((r 17)) ((r 18)) ((r 19)) ((r 20)) ((r 21)) ((r 22)) ((r 23)) ((r 24)) ((r 25)) ((r 26)) ((r 27)) ((r 28)) ((r 29)) ((r 30)) ((r 31)) ((r 32)) ((r 33)) ((j 4)) ((j 5)) ((xs 1)) ((xs 2))) (cwV 2 hts (gk_V tw_977 tw_978 tw_979 tw_505 wki_f_X12_leaves wkg_f_X12_leaves) rfl rfl rfl (by decide +kernel) ⟨Nat.le_of_ble_eq_true rfl, Nat.le_of_ble_eq_true rfl⟩) ⟨fun a U g mk q => by obtain ⟨q0, q1, qP, qK, qD⟩ := q; exact ⟨q0, q1, qP, va_K.moved (u := U) (U := U.calling g mk a) (Vm.Alike.refl U.vm) qK, qD⟩, va_recv hKc hPc (ci := 12) (q0 := 0) rfl rfl, fun U hU hW => ⟨rfl, by rw [hU], by rw [hU]; exact hPc, va_K.moved hW.alike hKc, hDc.weaken (fun _ _ _ _ => trivial)⟩⟩ rfl rfl hl.1 rfl (lv_room (Nat.le_of_ble_eq_true rfl)) dL_law_1489 ⟨Nat.le_of_ble_eq_true rfl, Nat.le_of_ble_eq_true rfl⟩) hS (fun q _ h => hFc q h) hFc (fun oz8 u t H1 locs ht hvm gz7 hB hz1 hk1 hS => ?_)
  generalize H1 = H at hS ⊢
  refine W.widen (k := 305) (n := 4995) (Nat.le_of_ble_eq_true rfl) (Nat.le_of_ble_eq_true rfl) ?_
  obtain rfl := gz7
  refine lv_icmp_eq (tgt := 2293) hx hb dL_law_1492 (by decide) (fun cz9 => ?_) (fun cz9 => ?_)
  · skip
    exact law_end (dC := dC) (dI := dI) (Nat.le_of_eq hL6) C0 A hAe (q 0) (r 0) H locs hS ls hl
  · skip
    exact absurd cz9 (by decide)
set_option maxHeartbeats 4000000 in
set_option maxRecDepth 100000 in
theorem law_case_47 {p : Program} {l : Launch} {e : Env} {s : State} {m : MethodId} {below : List Frame} {meth : Method} {c : Code} {dC : Nat → ClassId} {dI : Nat → Nat → Nat} {b L : Nat} {xs : Nat → Int32} (hL6 : L = 6) (C0 : lw_At p s m meth c b L xs) (A : Nat → Prop) (hAe : A = fun q => s.heap.size ≤ q) (q r : Nat → Nat) (k j : Nat → ClassId) (H : Heap) (locs : List Loc) (hK : va_K (dC, dI) vwCl (tX k ++ tM j) s) (hP : va_P (dC, dI) vwCl (wX q k ++ wM r j) H) (hD : va_D A (wX q k ++ wM r j)) (hS : va_S A s.heap H locs) (ls : Array Slot) (hl : lv_has ls 4 [(0, .ref b), (1, .ref (q 0)), (2, .ref (r 0)), (3, .int 0)]) : W p l e room_1 s m #[Value.ref b] below meth c H locs 305 4995 (lw_Z below #[Value.ref b] s) (F0 m 1497 ls []) := by
  obtain ⟨hx, hb, hr, hml, hown, hts, hX, hbl, hlocks, hgv⟩ := id C0
  have hown : s.vm.findClass RL = some m.cls := hown
  have hA : ∀ q : Nat, s.heap.size ≤ q → A q := by rw [hAe]; exact fun _ h => h
  have hbA : ¬ A b := by rw [hAe]; exact Nat.not_le.mpr hbl
  refine lv_aload_n hx hb dL_law_1497 rfl (lv_at hl 1 rfl) ?_
  refine lv_aload_n hx hb dL_law_1498 rfl (lv_at hl 0 rfl) ?_
  refine lv_iload_n hx hb dL_law_1499 rfl (lv_at hl 3 rfl) ?_
  refine lv_iconst (v := 1) hx hb dL_law_1500 (by decide) ?_
  refine lv_iadd hx hb dL_law_1501 ?_
  refine lv_topi (fun xz1 exz1 => ?_)
  obtain rfl : xz1 = 1 := exz1.trans (by decide)
  refine va_sld hx hb hX hbl hbA hS (by rw [hL6]; unfold vp_in; decide) dL_law_1502 ?_
  refine W.eq (g2 := F0 m 1503 ls [.int (xs 1), .ref (q 0)]) rfl ?_
  refine lv_aload_n hx hb dL_law_1503 rfl (lv_at hl 0 rfl) ?_
  refine lv_iload_n hx hb dL_law_1504 rfl (lv_at hl 3 rfl) ?_
  refine lv_iconst (v := 2) hx hb dL_law_1505 (by decide) ?_
  refine lv_iadd hx hb dL_law_1506 ?_
  refine lv_topi (fun xz2 exz2 => ?_)
  obtain rfl : xz2 = 2 := exz2.trans (by decide)
  refine va_sld hx hb hX hbl hbA hS (by rw [hL6]; unfold vp_in; decide) dL_law_1507 ?_
  refine W.eq (g2 := F0 m 1508 ls [.int (xs 2), .int (xs 1), .ref (q 0)]) rfl ?_
  have hPc := hP.sub (ws' := [((q 0), .inr (11, [.ref (q 1), .ref (q 2), .ref (q 3), .ref (q 4), .ref (q 5), .ref (q 6), .ref (q 7), .ref (q 8), .ref (q 9), .ref (q 10), .ref (q 11), .ref (q 12), .ref (q 13), .ref (q 14), .ref (q 15)])), ((q 2), .inr (10, [.ref (q 25), .ref (q 26), .ref (q 27), .ref (q 28), .ref (q 29), .ref (q 30), .ref (q 31), .int 0, .int 0, .int 0, .int 0, .int 0, .int 0, .int 0, .int 0, .int 0]))]) [0, 11] rfl
  have hKc := hK.sub (tys' := []) [] rfl
  refine vp_callSi (va_Run.run (va_runV (As := [.int (xs 1), .int (xs 2)]) (rest := []) ⟨hx, hb, hml, hown, hts⟩ (f_X11_loads l dC dI ((q 0)) ((q 1)) ((q 2)) ((q 3)) ((q 4)) ((q 5)) ((q 6)) ((q 7)) ((q 8)) ((q 9)) ((q 10)) ((q 11)) ((q 12)) ((q 13)) ((q 14)) ((q 15)) ((q 25)) ((q 26)) ((q 27)) ((q 28)) ((q 29)) ((q 30)) ((q 31)) ((xs 1)) ((xs 2))) (cwV 2 hts (gk_V tw_980 tw_981 tw_982 tw_157 wki_f_X11_loads wkg_f_X11_loads) rfl rfl rfl (by decide +kernel) ⟨Nat.le_of_ble_eq_true rfl, Nat.le_of_ble_eq_true rfl⟩) ⟨fun a U g mk q => by obtain ⟨q0, qP, qK⟩ := q; exact ⟨q0, qP, va_K.moved (u := U) (U := U.calling g mk a) (Vm.Alike.refl U.vm) qK⟩, va_recv hKc hPc (ci := 11) (q0 := 0) rfl rfl, fun U hU hW => ⟨rfl, by rw [hU]; exact hPc, va_K.moved hW.alike hKc⟩⟩ rfl rfl hl.1 rfl (lv_room (Nat.le_of_ble_eq_true rfl)) dL_law_1508 ⟨Nat.le_of_ble_eq_true rfl, Nat.le_of_ble_eq_true rfl⟩)) (fun oz4 gz3 => ?_)
  obtain rfl := gz3
  refine lv_aload_n hx hb dL_law_1511 rfl (lv_at hl 2 rfl) ?_
  refine lv_aload_n hx hb dL_law_1512 rfl (lv_at hl 0 rfl) ?_
  refine lv_iload_n hx hb dL_law_1513 rfl (lv_at hl 3 rfl) ?_
  refine lv_iconst (v := 1) hx hb dL_law_1514 (by decide) ?_
  refine lv_iadd hx hb dL_law_1515 ?_
  refine lv_topi (fun xz5 exz5 => ?_)
  obtain rfl : xz5 = 1 := exz5.trans (by decide)
  refine va_sld hx hb hX hbl hbA hS (by rw [hL6]; unfold vp_in; decide) dL_law_1516 ?_
  refine W.eq (g2 := F0 m 1517 ls [.int (xs 1), .ref (r 0), .int (-2)]) rfl ?_
  refine lv_aload_n hx hb dL_law_1517 rfl (lv_at hl 0 rfl) ?_
  refine lv_iload_n hx hb dL_law_1518 rfl (lv_at hl 3 rfl) ?_
  refine lv_iconst (v := 2) hx hb dL_law_1519 (by decide) ?_
  refine lv_iadd hx hb dL_law_1520 ?_
  refine lv_topi (fun xz6 exz6 => ?_)
  obtain rfl : xz6 = 2 := exz6.trans (by decide)
  refine va_sld hx hb hX hbl hbA hS (by rw [hL6]; unfold vp_in; decide) dL_law_1521 ?_
  refine W.eq (g2 := F0 m 1522 ls [.int (xs 2), .int (xs 1), .ref (r 0), .int (-2)]) rfl ?_
  have hPc := hP.sub (ws' := [((r 0), .inr (12, [.int 0, .ref (r 1), .ref (r 2), .ref (r 3), .ref (r 4), .ref (r 5), .int 0, .int 0, .int 0, .int 0, .int 0, .long 0, .int 0, .int 0, .int 0, .int (-1), .ref (r 6), .ref (r 7), .ref (r 8), .ref (r 9), .ref (r 10), .ref (r 11), .ref (r 12), .ref (r 13), .int 0, .int 0, .int 0, .ref (r 14), .ref (r 15), .ref (r 16), .ref (r 17), .ref (r 18), .ref (r 19), .ref (r 20), .ref (r 21), .ref (r 22), .ref (r 23), .ref (r 24), .ref (r 25), .ref (r 26), .ref (r 27), .ref (r 28), .ref (r 29), .int 0, .int 0, .int 0, .ref (r 30), .int 0, .int 0, .int 0, .int 0, .int 0, .int 0, .ref (r 31), .int 0, .int 0, .int 0, .ref (r 32), .ref (r 33)])), ((r 6), .inl ((j 4), 5, .inl (fun _ => 0))), ((r 7), .inl ((j 5), 40, .inl (fun _ => 0)))]) [78, 83, 84] rfl
  have hKc := hK.sub (tys' := [((j 4), .int), ((j 5), .int)]) [60, 61] rfl
  have hDc := hD.sub (ws' := [((r 0), .inr (12, [.int 0, .ref (r 1), .ref (r 2), .ref (r 3), .ref (r 4), .ref (r 5), .int 0, .int 0, .int 0, .int 0, .int 0, .long 0, .int 0, .int 0, .int 0, .int (-1), .ref (r 6), .ref (r 7), .ref (r 8), .ref (r 9), .ref (r 10), .ref (r 11), .ref (r 12), .ref (r 13), .int 0, .int 0, .int 0, .ref (r 14), .ref (r 15), .ref (r 16), .ref (r 17), .ref (r 18), .ref (r 19), .ref (r 20), .ref (r 21), .ref (r 22), .ref (r 23), .ref (r 24), .ref (r 25), .ref (r 26), .ref (r 27), .ref (r 28), .ref (r 29), .int 0, .int 0, .int 0, .ref (r 30), .int 0, .int 0, .int 0, .int 0, .int 0, .int 0, .ref (r 31), .int 0, .int 0, .int 0, .ref (r 32), .ref (r 33)])), ((r 6), .inl ((j 4), 5, .inl (fun _ => 0))), ((r 7), .inl ((j 5), 40, .inl (fun _ => 0)))]) [78, 83, 84] (by decide) rfl
  have hFc := va_free (wc := [((r 0), .inr (12, [.int 0, .ref (r 1), .ref (r 2), .ref (r 3), .ref (r 4), .ref (r 5), .int 0, .int 0, .int 0, .int 0, .int 0, .long 0, .int 0, .int 0, .int 0, .int (-1), .ref (r 6), .ref (r 7), .ref (r 8), .ref (r 9), .ref (r 10), .ref (r 11), .ref (r 12), .ref (r 13), .int 0, .int 0, .int 0, .ref (r 14), .ref (r 15), .ref (r 16), .ref (r 17), .ref (r 18), .ref (r 19), .ref (r 20), .ref (r 21), .ref (r 22), .ref (r 23), .ref (r 24), .ref (r 25), .ref (r 26), .ref (r 27), .ref (r 28), .ref (r 29), .int 0, .int 0, .int 0, .ref (r 30), .int 0, .int 0, .int 0, .int 0, .int 0, .int 0, .ref (r 31), .int 0, .int 0, .int 0, .ref (r 32), .ref (r 33)])), ((r 6), .inl ((j 4), 5, .inl (fun _ => 0))), ((r 7), .inl ((j 5), 40, .inl (fun _ => 0)))]) hD hS hA [78, 83, 84] rfl
  refine va_calli (va_runV (As := [.int (xs 1), .int (xs 2)]) (rest := [.int (-2)]) ⟨hx, hb, hml, hown, hts⟩ (f_X12_loads l dC dI H.size ((r 0)) ((r 1)) ((r 2)) ((r 3)) ((r 4)) ((r 5)) ((r 6)) ((r 7)) ((r 8)) ((r 9)) ((r 10)) ((r 11)) ((r 12)) ((r 13)) ((r 14)) ((r 15)) ((r 16)) ((r 17)) ((r 18)) ((r 19)) ((r 20)) ((r 21)) ((r 22)) ((r 23)) ((r 24)) ((r 25)) ((r 26)) ((r 27)) ((r 28)) ((r 29)) ((r 30)) ((r 31)) ((r 32)) ((r 33)) ((j 4)) ((j 5)) ((xs 1)) ((xs 2))) (cwV 2 hts (gk_V tw_983 tw_984 tw_985 tw_505 wki_f_X12_loads wkg_f_X12_loads) rfl rfl rfl (by decide +kernel) ⟨Nat.le_of_ble_eq_true rfl, Nat.le_of_ble_eq_true rfl⟩) ⟨fun a U g mk q => by obtain ⟨q0, q1, qP, qK, qD⟩ := q; exact ⟨q0, q1, qP, va_K.moved (u := U) (U := U.calling g mk a) (Vm.Alike.refl U.vm) qK, qD⟩, va_recv hKc hPc (ci := 12) (q0 := 0) rfl rfl, fun U hU hW => ⟨rfl, by rw [hU], by rw [hU]; exact hPc, va_K.moved hW.alike hKc, hDc.weaken (fun _ _ _ _ => trivial)⟩⟩ rfl rfl hl.1 rfl (lv_room (Nat.le_of_ble_eq_true rfl)) dL_law_1522 ⟨Nat.le_of_ble_eq_true rfl, Nat.le_of_ble_eq_true rfl⟩) hS (fun q _ h => hFc q h) hFc (fun oz8 u t H1 locs ht hvm gz7 hB hz1 hk1 hS => ?_)
  generalize H1 = H at hS ⊢
  refine W.widen (k := 305) (n := 4995) (Nat.le_of_ble_eq_true rfl) (Nat.le_of_ble_eq_true rfl) ?_
  obtain rfl := gz7
  refine lv_icmp_eq (tgt := 2293) hx hb dL_law_1525 (by decide) (fun cz9 => ?_) (fun cz9 => ?_)
  · skip
    exact law_end (dC := dC) (dI := dI) (Nat.le_of_eq hL6) C0 A hAe (q 0) (r 0) H locs hS ls hl
  · skip
    exact absurd cz9 (by decide)
set_option maxHeartbeats 4000000 in
set_option maxRecDepth 100000 in
theorem law_case_48 {p : Program} {l : Launch} {e : Env} {s : State} {m : MethodId} {below : List Frame} {meth : Method} {c : Code} {dC : Nat → ClassId} {dI : Nat → Nat → Nat} {b L : Nat} {xs : Nat → Int32} (hL6 : L = 6) (C0 : lw_At p s m meth c b L xs) (A : Nat → Prop) (hAe : A = fun q => s.heap.size ≤ q) (q r : Nat → Nat) (k j : Nat → ClassId) (H : Heap) (locs : List Loc) (hK : va_K (dC, dI) vwCl (tX k ++ tM j) s) (hP : va_P (dC, dI) vwCl (wX q k ++ wM r j) H) (hD : va_D A (wX q k ++ wM r j)) (hS : va_S A s.heap H locs) (ls : Array Slot) (hl : lv_has ls 4 [(0, .ref b), (1, .ref (q 0)), (2, .ref (r 0)), (3, .int 0)]) : W p l e room_1 s m #[Value.ref b] below meth c H locs 305 4995 (lw_Z below #[Value.ref b] s) (F0 m 1530 ls []) := by
  obtain ⟨hx, hb, hr, hml, hown, hts, hX, hbl, hlocks, hgv⟩ := id C0
  have hown : s.vm.findClass RL = some m.cls := hown
  have hA : ∀ q : Nat, s.heap.size ≤ q → A q := by rw [hAe]; exact fun _ h => h
  have hbA : ¬ A b := by rw [hAe]; exact Nat.not_le.mpr hbl
  refine lv_aload_n hx hb dL_law_1530 rfl (lv_at hl 1 rfl) ?_
  refine lv_aload_n hx hb dL_law_1531 rfl (lv_at hl 0 rfl) ?_
  refine lv_iload_n hx hb dL_law_1532 rfl (lv_at hl 3 rfl) ?_
  refine lv_iconst (v := 1) hx hb dL_law_1533 (by decide) ?_
  refine lv_iadd hx hb dL_law_1534 ?_
  refine lv_topi (fun xz1 exz1 => ?_)
  obtain rfl : xz1 = 1 := exz1.trans (by decide)
  refine va_sld hx hb hX hbl hbA hS (by rw [hL6]; unfold vp_in; decide) dL_law_1535 ?_
  refine W.eq (g2 := F0 m 1536 ls [.int (xs 1), .ref (q 0)]) rfl ?_
  refine lv_aload_n hx hb dL_law_1536 rfl (lv_at hl 0 rfl) ?_
  refine lv_iload_n hx hb dL_law_1537 rfl (lv_at hl 3 rfl) ?_
  refine lv_iconst (v := 2) hx hb dL_law_1538 (by decide) ?_
  refine lv_iadd hx hb dL_law_1539 ?_
  refine lv_topi (fun xz2 exz2 => ?_)
  obtain rfl : xz2 = 2 := exz2.trans (by decide)
  refine va_sld hx hb hX hbl hbA hS (by rw [hL6]; unfold vp_in; decide) dL_law_1540 ?_
  refine W.eq (g2 := F0 m 1541 ls [.int (xs 2), .int (xs 1), .ref (q 0)]) rfl ?_
  have hPc := hP.sub (ws' := [((q 0), .inr (11, [.ref (q 1), .ref (q 2), .ref (q 3), .ref (q 4), .ref (q 5), .ref (q 6), .ref (q 7), .ref (q 8), .ref (q 9), .ref (q 10), .ref (q 11), .ref (q 12), .ref (q 13), .ref (q 14), .ref (q 15)])), ((q 2), .inr (10, [.ref (q 25), .ref (q 26), .ref (q 27), .ref (q 28), .ref (q 29), .ref (q 30), .ref (q 31), .int 0, .int 0, .int 0, .int 0, .int 0, .int 0, .int 0, .int 0, .int 0]))]) [0, 11] rfl
  have hKc := hK.sub (tys' := []) [] rfl
  refine vp_callSi (va_Run.run (va_runV (As := [.int (xs 1), .int (xs 2)]) (rest := []) ⟨hx, hb, hml, hown, hts⟩ (f_X11_light l dC dI ((q 0)) ((q 1)) ((q 2)) ((q 3)) ((q 4)) ((q 5)) ((q 6)) ((q 7)) ((q 8)) ((q 9)) ((q 10)) ((q 11)) ((q 12)) ((q 13)) ((q 14)) ((q 15)) ((q 25)) ((q 26)) ((q 27)) ((q 28)) ((q 29)) ((q 30)) ((q 31)) ((xs 1)) ((xs 2))) (cwV 2 hts (gk_V tw_986 tw_987 tw_988 tw_157 wki_f_X11_light wkg_f_X11_light) rfl rfl rfl (by decide +kernel) ⟨Nat.le_of_ble_eq_true rfl, Nat.le_of_ble_eq_true rfl⟩) ⟨fun a U g mk q => by obtain ⟨q0, qP, qK⟩ := q; exact ⟨q0, qP, va_K.moved (u := U) (U := U.calling g mk a) (Vm.Alike.refl U.vm) qK⟩, va_recv hKc hPc (ci := 11) (q0 := 0) rfl rfl, fun U hU hW => ⟨rfl, by rw [hU]; exact hPc, va_K.moved hW.alike hKc⟩⟩ rfl rfl hl.1 rfl (lv_room (Nat.le_of_ble_eq_true rfl)) dL_law_1541 ⟨Nat.le_of_ble_eq_true rfl, Nat.le_of_ble_eq_true rfl⟩)) (fun oz4 gz3 => ?_)
  obtain rfl := gz3
  refine lv_aload_n hx hb dL_law_1544 rfl (lv_at hl 2 rfl) ?_
  refine lv_aload_n hx hb dL_law_1545 rfl (lv_at hl 0 rfl) ?_
  refine lv_iload_n hx hb dL_law_1546 rfl (lv_at hl 3 rfl) ?_
  refine lv_iconst (v := 1) hx hb dL_law_1547 (by decide) ?_
  refine lv_iadd hx hb dL_law_1548 ?_
  refine lv_topi (fun xz5 exz5 => ?_)
  obtain rfl : xz5 = 1 := exz5.trans (by decide)
  refine va_sld hx hb hX hbl hbA hS (by rw [hL6]; unfold vp_in; decide) dL_law_1549 ?_
  refine W.eq (g2 := F0 m 1550 ls [.int (xs 1), .ref (r 0), .int (-2)]) rfl ?_
  refine lv_aload_n hx hb dL_law_1550 rfl (lv_at hl 0 rfl) ?_
  refine lv_iload_n hx hb dL_law_1551 rfl (lv_at hl 3 rfl) ?_
  refine lv_iconst (v := 2) hx hb dL_law_1552 (by decide) ?_
  refine lv_iadd hx hb dL_law_1553 ?_
  refine lv_topi (fun xz6 exz6 => ?_)
  obtain rfl : xz6 = 2 := exz6.trans (by decide)
  refine va_sld hx hb hX hbl hbA hS (by rw [hL6]; unfold vp_in; decide) dL_law_1554 ?_
  refine W.eq (g2 := F0 m 1555 ls [.int (xs 2), .int (xs 1), .ref (r 0), .int (-2)]) rfl ?_
  have hPc := hP.sub (ws' := [((r 0), .inr (12, [.int 0, .ref (r 1), .ref (r 2), .ref (r 3), .ref (r 4), .ref (r 5), .int 0, .int 0, .int 0, .int 0, .int 0, .long 0, .int 0, .int 0, .int 0, .int (-1), .ref (r 6), .ref (r 7), .ref (r 8), .ref (r 9), .ref (r 10), .ref (r 11), .ref (r 12), .ref (r 13), .int 0, .int 0, .int 0, .ref (r 14), .ref (r 15), .ref (r 16), .ref (r 17), .ref (r 18), .ref (r 19), .ref (r 20), .ref (r 21), .ref (r 22), .ref (r 23), .ref (r 24), .ref (r 25), .ref (r 26), .ref (r 27), .ref (r 28), .ref (r 29), .int 0, .int 0, .int 0, .ref (r 30), .int 0, .int 0, .int 0, .int 0, .int 0, .int 0, .ref (r 31), .int 0, .int 0, .int 0, .ref (r 32), .ref (r 33)])), ((r 6), .inl ((j 4), 5, .inl (fun _ => 0))), ((r 7), .inl ((j 5), 40, .inl (fun _ => 0)))]) [78, 83, 84] rfl
  have hKc := hK.sub (tys' := [((j 4), .int), ((j 5), .int)]) [60, 61] rfl
  have hDc := hD.sub (ws' := [((r 0), .inr (12, [.int 0, .ref (r 1), .ref (r 2), .ref (r 3), .ref (r 4), .ref (r 5), .int 0, .int 0, .int 0, .int 0, .int 0, .long 0, .int 0, .int 0, .int 0, .int (-1), .ref (r 6), .ref (r 7), .ref (r 8), .ref (r 9), .ref (r 10), .ref (r 11), .ref (r 12), .ref (r 13), .int 0, .int 0, .int 0, .ref (r 14), .ref (r 15), .ref (r 16), .ref (r 17), .ref (r 18), .ref (r 19), .ref (r 20), .ref (r 21), .ref (r 22), .ref (r 23), .ref (r 24), .ref (r 25), .ref (r 26), .ref (r 27), .ref (r 28), .ref (r 29), .int 0, .int 0, .int 0, .ref (r 30), .int 0, .int 0, .int 0, .int 0, .int 0, .int 0, .ref (r 31), .int 0, .int 0, .int 0, .ref (r 32), .ref (r 33)])), ((r 6), .inl ((j 4), 5, .inl (fun _ => 0))), ((r 7), .inl ((j 5), 40, .inl (fun _ => 0)))]) [78, 83, 84] (by decide) rfl
  have hFc := va_free (wc := [((r 0), .inr (12, [.int 0, .ref (r 1), .ref (r 2), .ref (r 3), .ref (r 4), .ref (r 5), .int 0, .int 0, .int 0, .int 0, .int 0, .long 0, .int 0, .int 0, .int 0, .int (-1), .ref (r 6), .ref (r 7), .ref (r 8), .ref (r 9), .ref (r 10), .ref (r 11), .ref (r 12), .ref (r 13), .int 0, .int 0, .int 0, .ref (r 14), .ref (r 15), .ref (r 16), .ref (r 17), .ref (r 18), .ref (r 19), .ref (r 20), .ref (r 21), .ref (r 22), .ref (r 23), .ref (r 24), .ref (r 25), .ref (r 26), .ref (r 27), .ref (r 28), .ref (r 29), .int 0, .int 0, .int 0, .ref (r 30), .int 0, .int 0, .int 0, .int 0, .int 0, .int 0, .ref (r 31), .int 0, .int 0, .int 0, .ref (r 32), .ref (r 33)])), ((r 6), .inl ((j 4), 5, .inl (fun _ => 0))), ((r 7), .inl ((j 5), 40, .inl (fun _ => 0)))]) hD hS hA [78, 83, 84] rfl
  refine va_calli (va_runV (As := [.int (xs 1), .int (xs 2)]) (rest := [.int (-2)]) ⟨hx, hb, hml, hown, hts⟩ (f_X12_light l dC dI H.size ((r 0)) ((r 1)) ((r 2)) ((r 3)) ((r 4)) ((r 5)) ((r 6)) ((r 7)) ((r 8)) ((r 9)) ((r 10)) ((r 11)) ((r 12)) ((r 13)) ((r 14)) ((r 15)) ((r 16)) ((r 17)) ((r 18)) ((r 19)) ((r 20)) ((r 21)) ((r 22)) ((r 23)) ((r 24)) ((r 25)) ((r 26)) ((r 27)) ((r 28)) ((r 29)) ((r 30)) ((r 31)) ((r 32)) ((r 33)) ((j 4)) ((j 5)) ((xs 1)) ((xs 2))) (cwV 2 hts (gk_V tw_989 tw_990 tw_991 tw_505 wki_f_X12_light wkg_f_X12_light) rfl rfl rfl (by decide +kernel) ⟨Nat.le_of_ble_eq_true rfl, Nat.le_of_ble_eq_true rfl⟩) ⟨fun a U g mk q => by obtain ⟨q0, q1, qP, qK, qD⟩ := q; exact ⟨q0, q1, qP, va_K.moved (u := U) (U := U.calling g mk a) (Vm.Alike.refl U.vm) qK, qD⟩, va_recv hKc hPc (ci := 12) (q0 := 0) rfl rfl, fun U hU hW => ⟨rfl, by rw [hU], by rw [hU]; exact hPc, va_K.moved hW.alike hKc, hDc.weaken (fun _ _ _ _ => trivial)⟩⟩ rfl rfl hl.1 rfl (lv_room (Nat.le_of_ble_eq_true rfl)) dL_law_1555 ⟨Nat.le_of_ble_eq_true rfl, Nat.le_of_ble_eq_true rfl⟩) hS (fun q _ h => hFc q h) hFc (fun oz8 u t H1 locs ht hvm gz7 hB hz1 hk1 hS => ?_)
  generalize H1 = H at hS ⊢
  refine W.widen (k := 305) (n := 4995) (Nat.le_of_ble_eq_true rfl) (Nat.le_of_ble_eq_true rfl) ?_
  obtain rfl := gz7
  refine lv_icmp_eq (tgt := 2293) hx hb dL_law_1558 (by decide) (fun cz9 => ?_) (fun cz9 => ?_)
  · skip
    exact law_end (dC := dC) (dI := dI) (Nat.le_of_eq hL6) C0 A hAe (q 0) (r 0) H locs hS ls hl
  · skip
    exact absurd cz9 (by decide)
set_option maxHeartbeats 4000000 in
set_option maxRecDepth 100000 in
theorem law_case_49 {p : Program} {l : Launch} {e : Env} {s : State} {m : MethodId} {below : List Frame} {meth : Method} {c : Code} {dC : Nat → ClassId} {dI : Nat → Nat → Nat} {b L : Nat} {xs : Nat → Int32} (hL6 : L = 6) (C0 : lw_At p s m meth c b L xs) (A : Nat → Prop) (hAe : A = fun q => s.heap.size ≤ q) (q r : Nat → Nat) (k j : Nat → ClassId) (H : Heap) (locs : List Loc) (hK : va_K (dC, dI) vwCl (tX k ++ tM j) s) (hP : va_P (dC, dI) vwCl (wX q k ++ wM r j) H) (hD : va_D A (wX q k ++ wM r j)) (hS : va_S A s.heap H locs) (ls : Array Slot) (hl : lv_has ls 4 [(0, .ref b), (1, .ref (q 0)), (2, .ref (r 0)), (3, .int 0)]) : W p l e room_1 s m #[Value.ref b] below meth c H locs 305 4995 (lw_Z below #[Value.ref b] s) (F0 m 1563 ls []) := by
  obtain ⟨hx, hb, hr, hml, hown, hts, hX, hbl, hlocks, hgv⟩ := id C0
  have hown : s.vm.findClass RL = some m.cls := hown
  have hA : ∀ q : Nat, s.heap.size ≤ q → A q := by rw [hAe]; exact fun _ h => h
  have hbA : ¬ A b := by rw [hAe]; exact Nat.not_le.mpr hbl
  refine lv_aload_n hx hb dL_law_1563 rfl (lv_at hl 1 rfl) ?_
  refine lv_aload_n hx hb dL_law_1564 rfl (lv_at hl 0 rfl) ?_
  refine lv_iload_n hx hb dL_law_1565 rfl (lv_at hl 3 rfl) ?_
  refine lv_iconst (v := 1) hx hb dL_law_1566 (by decide) ?_
  refine lv_iadd hx hb dL_law_1567 ?_
  refine lv_topi (fun xz1 exz1 => ?_)
  obtain rfl : xz1 = 1 := exz1.trans (by decide)
  refine va_sld hx hb hX hbl hbA hS (by rw [hL6]; unfold vp_in; decide) dL_law_1568 ?_
  refine W.eq (g2 := F0 m 1569 ls [.int (xs 1), .ref (q 0)]) rfl ?_
  refine lv_aload_n hx hb dL_law_1569 rfl (lv_at hl 0 rfl) ?_
  refine lv_iload_n hx hb dL_law_1570 rfl (lv_at hl 3 rfl) ?_
  refine lv_iconst (v := 2) hx hb dL_law_1571 (by decide) ?_
  refine lv_iadd hx hb dL_law_1572 ?_
  refine lv_topi (fun xz2 exz2 => ?_)
  obtain rfl : xz2 = 2 := exz2.trans (by decide)
  refine va_sld hx hb hX hbl hbA hS (by rw [hL6]; unfold vp_in; decide) dL_law_1573 ?_
  refine W.eq (g2 := F0 m 1574 ls [.int (xs 2), .int (xs 1), .ref (q 0)]) rfl ?_
  have hPc := hP.sub (ws' := [((q 0), .inr (11, [.ref (q 1), .ref (q 2), .ref (q 3), .ref (q 4), .ref (q 5), .ref (q 6), .ref (q 7), .ref (q 8), .ref (q 9), .ref (q 10), .ref (q 11), .ref (q 12), .ref (q 13), .ref (q 14), .ref (q 15)])), ((q 2), .inr (10, [.ref (q 25), .ref (q 26), .ref (q 27), .ref (q 28), .ref (q 29), .ref (q 30), .ref (q 31), .int 0, .int 0, .int 0, .int 0, .int 0, .int 0, .int 0, .int 0, .int 0]))]) [0, 11] rfl
  have hKc := hK.sub (tys' := []) [] rfl
  refine vp_callSi (va_Run.run (va_runV (As := [.int (xs 1), .int (xs 2)]) (rest := []) ⟨hx, hb, hml, hown, hts⟩ (f_X11_heavy l dC dI ((q 0)) ((q 1)) ((q 2)) ((q 3)) ((q 4)) ((q 5)) ((q 6)) ((q 7)) ((q 8)) ((q 9)) ((q 10)) ((q 11)) ((q 12)) ((q 13)) ((q 14)) ((q 15)) ((q 25)) ((q 26)) ((q 27)) ((q 28)) ((q 29)) ((q 30)) ((q 31)) ((xs 1)) ((xs 2))) (cwV 2 hts (gk_V tw_992 tw_993 tw_994 tw_157 wki_f_X11_heavy wkg_f_X11_heavy) rfl rfl rfl (by decide +kernel) ⟨Nat.le_of_ble_eq_true rfl, Nat.le_of_ble_eq_true rfl⟩) ⟨fun a U g mk q => by obtain ⟨q0, qP, qK⟩ := q; exact ⟨q0, qP, va_K.moved (u := U) (U := U.calling g mk a) (Vm.Alike.refl U.vm) qK⟩, va_recv hKc hPc (ci := 11) (q0 := 0) rfl rfl, fun U hU hW => ⟨rfl, by rw [hU]; exact hPc, va_K.moved hW.alike hKc⟩⟩ rfl rfl hl.1 rfl (lv_room (Nat.le_of_ble_eq_true rfl)) dL_law_1574 ⟨Nat.le_of_ble_eq_true rfl, Nat.le_of_ble_eq_true rfl⟩)) (fun oz4 gz3 => ?_)
  obtain rfl := gz3
  refine lv_aload_n hx hb dL_law_1577 rfl (lv_at hl 2 rfl) ?_
  refine lv_aload_n hx hb dL_law_1578 rfl (lv_at hl 0 rfl) ?_
  refine lv_iload_n hx hb dL_law_1579 rfl (lv_at hl 3 rfl) ?_
  refine lv_iconst (v := 1) hx hb dL_law_1580 (by decide) ?_
  refine lv_iadd hx hb dL_law_1581 ?_
  refine lv_topi (fun xz5 exz5 => ?_)
  obtain rfl : xz5 = 1 := exz5.trans (by decide)
  refine va_sld hx hb hX hbl hbA hS (by rw [hL6]; unfold vp_in; decide) dL_law_1582 ?_
  refine W.eq (g2 := F0 m 1583 ls [.int (xs 1), .ref (r 0), .int (-2)]) rfl ?_
  refine lv_aload_n hx hb dL_law_1583 rfl (lv_at hl 0 rfl) ?_
  refine lv_iload_n hx hb dL_law_1584 rfl (lv_at hl 3 rfl) ?_
  refine lv_iconst (v := 2) hx hb dL_law_1585 (by decide) ?_
  refine lv_iadd hx hb dL_law_1586 ?_
  refine lv_topi (fun xz6 exz6 => ?_)
  obtain rfl : xz6 = 2 := exz6.trans (by decide)
  refine va_sld hx hb hX hbl hbA hS (by rw [hL6]; unfold vp_in; decide) dL_law_1587 ?_
  refine W.eq (g2 := F0 m 1588 ls [.int (xs 2), .int (xs 1), .ref (r 0), .int (-2)]) rfl ?_
  have hPc := hP.sub (ws' := [((r 0), .inr (12, [.int 0, .ref (r 1), .ref (r 2), .ref (r 3), .ref (r 4), .ref (r 5), .int 0, .int 0, .int 0, .int 0, .int 0, .long 0, .int 0, .int 0, .int 0, .int (-1), .ref (r 6), .ref (r 7), .ref (r 8), .ref (r 9), .ref (r 10), .ref (r 11), .ref (r 12), .ref (r 13), .int 0, .int 0, .int 0, .ref (r 14), .ref (r 15), .ref (r 16), .ref (r 17), .ref (r 18), .ref (r 19), .ref (r 20), .ref (r 21), .ref (r 22), .ref (r 23), .ref (r 24), .ref (r 25), .ref (r 26), .ref (r 27), .ref (r 28), .ref (r 29), .int 0, .int 0, .int 0, .ref (r 30), .int 0, .int 0, .int 0, .int 0, .int 0, .int 0, .ref (r 31), .int 0, .int 0, .int 0, .ref (r 32), .ref (r 33)])), ((r 6), .inl ((j 4), 5, .inl (fun _ => 0))), ((r 7), .inl ((j 5), 40, .inl (fun _ => 0)))]) [78, 83, 84] rfl
  have hKc := hK.sub (tys' := [((j 4), .int), ((j 5), .int)]) [60, 61] rfl
  have hDc := hD.sub (ws' := [((r 0), .inr (12, [.int 0, .ref (r 1), .ref (r 2), .ref (r 3), .ref (r 4), .ref (r 5), .int 0, .int 0, .int 0, .int 0, .int 0, .long 0, .int 0, .int 0, .int 0, .int (-1), .ref (r 6), .ref (r 7), .ref (r 8), .ref (r 9), .ref (r 10), .ref (r 11), .ref (r 12), .ref (r 13), .int 0, .int 0, .int 0, .ref (r 14), .ref (r 15), .ref (r 16), .ref (r 17), .ref (r 18), .ref (r 19), .ref (r 20), .ref (r 21), .ref (r 22), .ref (r 23), .ref (r 24), .ref (r 25), .ref (r 26), .ref (r 27), .ref (r 28), .ref (r 29), .int 0, .int 0, .int 0, .ref (r 30), .int 0, .int 0, .int 0, .int 0, .int 0, .int 0, .ref (r 31), .int 0, .int 0, .int 0, .ref (r 32), .ref (r 33)])), ((r 6), .inl ((j 4), 5, .inl (fun _ => 0))), ((r 7), .inl ((j 5), 40, .inl (fun _ => 0)))]) [78, 83, 84] (by decide) rfl
  have hFc := va_free (wc := [((r 0), .inr (12, [.int 0, .ref (r 1), .ref (r 2), .ref (r 3), .ref (r 4), .ref (r 5), .int 0, .int 0, .int 0, .int 0, .int 0, .long 0, .int 0, .int 0, .int 0, .int (-1), .ref (r 6), .ref (r 7), .ref (r 8), .ref (r 9), .ref (r 10), .ref (r 11), .ref (r 12), .ref (r 13), .int 0, .int 0, .int 0, .ref (r 14), .ref (r 15), .ref (r 16), .ref (r 17), .ref (r 18), .ref (r 19), .ref (r 20), .ref (r 21), .ref (r 22), .ref (r 23), .ref (r 24), .ref (r 25), .ref (r 26), .ref (r 27), .ref (r 28), .ref (r 29), .int 0, .int 0, .int 0, .ref (r 30), .int 0, .int 0, .int 0, .int 0, .int 0, .int 0, .ref (r 31), .int 0, .int 0, .int 0, .ref (r 32), .ref (r 33)])), ((r 6), .inl ((j 4), 5, .inl (fun _ => 0))), ((r 7), .inl ((j 5), 40, .inl (fun _ => 0)))]) hD hS hA [78, 83, 84] rfl
  refine va_calli (va_runV (As := [.int (xs 1), .int (xs 2)]) (rest := [.int (-2)]) ⟨hx, hb, hml, hown, hts⟩ (f_X12_heavy l dC dI H.size ((r 0)) ((r 1)) ((r 2)) ((r 3)) ((r 4)) ((r 5)) ((r 6)) ((r 7)) ((r 8)) ((r 9)) ((r 10)) ((r 11)) ((r 12)) ((r 13)) ((r 14)) ((r 15)) ((r 16)) ((r 17)) ((r 18)) ((r 19)) ((r 20)) ((r 21)) ((r 22)) ((r 23)) ((r 24)) ((r 25)) ((r 26)) ((r 27)) ((r 28)) ((r 29)) ((r 30)) ((r 31)) ((r 32)) ((r 33)) ((j 4)) ((j 5)) ((xs 1)) ((xs 2))) (cwV 2 hts (gk_V tw_995 tw_996 tw_997 tw_505 wki_f_X12_heavy wkg_f_X12_heavy) rfl rfl rfl (by decide +kernel) ⟨Nat.le_of_ble_eq_true rfl, Nat.le_of_ble_eq_true rfl⟩) ⟨fun a U g mk q => by obtain ⟨q0, q1, qP, qK, qD⟩ := q; exact ⟨q0, q1, qP, va_K.moved (u := U) (U := U.calling g mk a) (Vm.Alike.refl U.vm) qK, qD⟩, va_recv hKc hPc (ci := 12) (q0 := 0) rfl rfl, fun U hU hW => ⟨rfl, by rw [hU], by rw [hU]; exact hPc, va_K.moved hW.alike hKc, hDc.weaken (fun _ _ _ _ => trivial)⟩⟩ rfl rfl hl.1 rfl (lv_room (Nat.le_of_ble_eq_true rfl)) dL_law_1588 ⟨Nat.le_of_ble_eq_true rfl, Nat.le_of_ble_eq_true rfl⟩) hS (fun q _ h => hFc q h) hFc (fun oz8 u t H1 locs ht hvm gz7 hB hz1 hk1 hS => ?_)
  generalize H1 = H at hS ⊢
  refine W.widen (k := 305) (n := 4995) (Nat.le_of_ble_eq_true rfl) (Nat.le_of_ble_eq_true rfl) ?_
  obtain rfl := gz7
  refine lv_icmp_eq (tgt := 2293) hx hb dL_law_1591 (by decide) (fun cz9 => ?_) (fun cz9 => ?_)
  · skip
    exact law_end (dC := dC) (dI := dI) (Nat.le_of_eq hL6) C0 A hAe (q 0) (r 0) H locs hS ls hl
  · skip
    exact absurd cz9 (by decide)
set_option maxHeartbeats 4000000 in
set_option maxRecDepth 100000 in
theorem law_case_50 {p : Program} {l : Launch} {e : Env} {s : State} {m : MethodId} {below : List Frame} {meth : Method} {c : Code} {dC : Nat → ClassId} {dI : Nat → Nat → Nat} {b L : Nat} {xs : Nat → Int32} (hL6 : L = 6) (C0 : lw_At p s m meth c b L xs) (A : Nat → Prop) (hAe : A = fun q => s.heap.size ≤ q) (q r : Nat → Nat) (k j : Nat → ClassId) (H : Heap) (locs : List Loc) (hK : va_K (dC, dI) vwCl (tX k ++ tM j) s) (hP : va_P (dC, dI) vwCl (wX q k ++ wM r j) H) (hD : va_D A (wX q k ++ wM r j)) (hS : va_S A s.heap H locs) (ls : Array Slot) (hl : lv_has ls 4 [(0, .ref b), (1, .ref (q 0)), (2, .ref (r 0)), (3, .int 0)]) : W p l e room_1 s m #[Value.ref b] below meth c H locs 305 4995 (lw_Z below #[Value.ref b] s) (F0 m 1596 ls []) := by
  obtain ⟨hx, hb, hr, hml, hown, hts, hX, hbl, hlocks, hgv⟩ := id C0
  have hown : s.vm.findClass RL = some m.cls := hown
  have hA : ∀ q : Nat, s.heap.size ≤ q → A q := by rw [hAe]; exact fun _ h => h
  have hbA : ¬ A b := by rw [hAe]; exact Nat.not_le.mpr hbl
  refine lv_aload_n hx hb dL_law_1596 rfl (lv_at hl 1 rfl) ?_
  refine lv_aload_n hx hb dL_law_1597 rfl (lv_at hl 0 rfl) ?_
  refine lv_iload_n hx hb dL_law_1598 rfl (lv_at hl 3 rfl) ?_
  refine lv_iconst (v := 1) hx hb dL_law_1599 (by decide) ?_
  refine lv_iadd hx hb dL_law_1600 ?_
  refine lv_topi (fun xz1 exz1 => ?_)
  obtain rfl : xz1 = 1 := exz1.trans (by decide)
  refine va_sld hx hb hX hbl hbA hS (by rw [hL6]; unfold vp_in; decide) dL_law_1601 ?_
  refine W.eq (g2 := F0 m 1602 ls [.int (xs 1), .ref (q 0)]) rfl ?_
  have hPc := hP.sub (ws' := [((q 0), .inr (11, [.ref (q 1), .ref (q 2), .ref (q 3), .ref (q 4), .ref (q 5), .ref (q 6), .ref (q 7), .ref (q 8), .ref (q 9), .ref (q 10), .ref (q 11), .ref (q 12), .ref (q 13), .ref (q 14), .ref (q 15)])), ((q 2), .inr (10, [.ref (q 25), .ref (q 26), .ref (q 27), .ref (q 28), .ref (q 29), .ref (q 30), .ref (q 31), .int 0, .int 0, .int 0, .int 0, .int 0, .int 0, .int 0, .int 0, .int 0]))]) [0, 11] rfl
  have hKc := hK.sub (tys' := []) [] rfl
  refine vp_callSi (va_Run.run (va_runV (As := [.int (xs 1)]) (rest := []) ⟨hx, hb, hml, hown, hts⟩ (f_X11_liars l dC dI ((q 0)) ((q 1)) ((q 2)) ((q 3)) ((q 4)) ((q 5)) ((q 6)) ((q 7)) ((q 8)) ((q 9)) ((q 10)) ((q 11)) ((q 12)) ((q 13)) ((q 14)) ((q 15)) ((q 25)) ((q 26)) ((q 27)) ((q 28)) ((q 29)) ((q 30)) ((q 31)) ((xs 1))) (cwV 1 hts (gk_V tw_998 tw_999 tw_1000 tw_157 wki_f_X11_liars wkg_f_X11_liars) rfl rfl rfl (by decide +kernel) ⟨Nat.le_of_ble_eq_true rfl, Nat.le_of_ble_eq_true rfl⟩) ⟨fun a U g mk q => by obtain ⟨q0, qP, qK⟩ := q; exact ⟨q0, qP, va_K.moved (u := U) (U := U.calling g mk a) (Vm.Alike.refl U.vm) qK⟩, va_recv hKc hPc (ci := 11) (q0 := 0) rfl rfl, fun U hU hW => ⟨rfl, by rw [hU]; exact hPc, va_K.moved hW.alike hKc⟩⟩ rfl rfl hl.1 rfl (lv_room (Nat.le_of_ble_eq_true rfl)) dL_law_1602 ⟨Nat.le_of_ble_eq_true rfl, Nat.le_of_ble_eq_true rfl⟩)) (fun oz3 gz2 => ?_)
  obtain rfl := gz2
  refine lv_aload_n hx hb dL_law_1605 rfl (lv_at hl 2 rfl) ?_
  refine lv_aload_n hx hb dL_law_1606 rfl (lv_at hl 0 rfl) ?_
  refine lv_iload_n hx hb dL_law_1607 rfl (lv_at hl 3 rfl) ?_
  refine lv_iconst (v := 1) hx hb dL_law_1608 (by decide) ?_
  refine lv_iadd hx hb dL_law_1609 ?_
  refine lv_topi (fun xz4 exz4 => ?_)
  obtain rfl : xz4 = 1 := exz4.trans (by decide)
  refine va_sld hx hb hX hbl hbA hS (by rw [hL6]; unfold vp_in; decide) dL_law_1610 ?_
  refine W.eq (g2 := F0 m 1611 ls [.int (xs 1), .ref (r 0), .int (-2)]) rfl ?_
  have hPc := hP.sub (ws' := [((r 0), .inr (12, [.int 0, .ref (r 1), .ref (r 2), .ref (r 3), .ref (r 4), .ref (r 5), .int 0, .int 0, .int 0, .int 0, .int 0, .long 0, .int 0, .int 0, .int 0, .int (-1), .ref (r 6), .ref (r 7), .ref (r 8), .ref (r 9), .ref (r 10), .ref (r 11), .ref (r 12), .ref (r 13), .int 0, .int 0, .int 0, .ref (r 14), .ref (r 15), .ref (r 16), .ref (r 17), .ref (r 18), .ref (r 19), .ref (r 20), .ref (r 21), .ref (r 22), .ref (r 23), .ref (r 24), .ref (r 25), .ref (r 26), .ref (r 27), .ref (r 28), .ref (r 29), .int 0, .int 0, .int 0, .ref (r 30), .int 0, .int 0, .int 0, .int 0, .int 0, .int 0, .ref (r 31), .int 0, .int 0, .int 0, .ref (r 32), .ref (r 33)])), ((r 6), .inl ((j 4), 5, .inl (fun _ => 0))), ((r 7), .inl ((j 5), 40, .inl (fun _ => 0)))]) [78, 83, 84] rfl
  have hKc := hK.sub (tys' := [((j 4), .int), ((j 5), .int)]) [60, 61] rfl
  have hDc := hD.sub (ws' := [((r 0), .inr (12, [.int 0, .ref (r 1), .ref (r 2), .ref (r 3), .ref (r 4), .ref (r 5), .int 0, .int 0, .int 0, .int 0, .int 0, .long 0, .int 0, .int 0, .int 0, .int (-1), .ref (r 6), .ref (r 7), .ref (r 8), .ref (r 9), .ref (r 10), .ref (r 11), .ref (r 12), .ref (r 13), .int 0, .int 0, .int 0, .ref (r 14), .ref (r 15), .ref (r 16), .ref (r 17), .ref (r 18), .ref (r 19), .ref (r 20), .ref (r 21), .ref (r 22), .ref (r 23), .ref (r 24), .ref (r 25), .ref (r 26), .ref (r 27), .ref (r 28), .ref (r 29), .int 0, .int 0, .int 0, .ref (r 30), .int 0, .int 0, .int 0, .int 0, .int 0, .int 0, .ref (r 31), .int 0, .int 0, .int 0, .ref (r 32), .ref (r 33)])), ((r 6), .inl ((j 4), 5, .inl (fun _ => 0))), ((r 7), .inl ((j 5), 40, .inl (fun _ => 0)))]) [78, 83, 84] (by decide) rfl
  have hFc := va_free (wc := [((r 0), .inr (12, [.int 0, .ref (r 1), .ref (r 2), .ref (r 3), .ref (r 4), .ref (r 5), .int 0, .int 0, .int 0, .int 0, .int 0, .long 0, .int 0, .int 0, .int 0, .int (-1), .ref (r 6), .ref (r 7), .ref (r 8), .ref (r 9), .ref (r 10), .ref (r 11), .ref (r 12), .ref (r 13), .int 0, .int 0, .int 0, .ref (r 14), .ref (r 15), .ref (r 16), .ref (r 17), .ref (r 18), .ref (r 19), .ref (r 20), .ref (r 21), .ref (r 22), .ref (r 23), .ref (r 24), .ref (r 25), .ref (r 26), .ref (r 27), .ref (r 28), .ref (r 29), .int 0, .int 0, .int 0, .ref (r 30), .int 0, .int 0, .int 0, .int 0, .int 0, .int 0, .ref (r 31), .int 0, .int 0, .int 0, .ref (r 32), .ref (r 33)])), ((r 6), .inl ((j 4), 5, .inl (fun _ => 0))), ((r 7), .inl ((j 5), 40, .inl (fun _ => 0)))]) hD hS hA [78, 83, 84] rfl
  refine va_calli (va_runV (As := [.int (xs 1)]) (rest := [.int (-2)]) ⟨hx, hb, hml, hown, hts⟩ (f_X12_liars l dC dI H.size ((r 0)) ((r 1)) ((r 2)) ((r 3)) ((r 4)) ((r 5)) ((r 6)) ((r 7)) ((r 8)) ((r 9)) ((r 10)) ((r 11)) ((r 12)) ((r 13)) ((r 14)) ((r 15)) ((r 16)) ((r 17)) ((r 18)) ((r 19)) ((r 20)) ((r 21)) ((r 22)) ((r 23)) ((r 24)) ((r 25)) ((r 26)) ((r 27)) ((r 28)) ((r 29)) ((r 30)) ((r 31)) ((r 32)) ((r 33)) ((j 4)) ((j 5)) ((xs 1))) (cwV 1 hts (gk_V tw_1001 tw_1002 tw_1003 tw_505 wki_f_X12_liars wkg_f_X12_liars) rfl rfl rfl (by decide +kernel) ⟨Nat.le_of_ble_eq_true rfl, Nat.le_of_ble_eq_true rfl⟩) ⟨fun a U g mk q => by obtain ⟨q0, q1, qP, qK, qD⟩ := q; exact ⟨q0, q1, qP, va_K.moved (u := U) (U := U.calling g mk a) (Vm.Alike.refl U.vm) qK, qD⟩, va_recv hKc hPc (ci := 12) (q0 := 0) rfl rfl, fun U hU hW => ⟨rfl, by rw [hU], by rw [hU]; exact hPc, va_K.moved hW.alike hKc, hDc.weaken (fun _ _ _ _ => trivial)⟩⟩ rfl rfl hl.1 rfl (lv_room (Nat.le_of_ble_eq_true rfl)) dL_law_1611 ⟨Nat.le_of_ble_eq_true rfl, Nat.le_of_ble_eq_true rfl⟩) hS (fun q _ h => hFc q h) hFc (fun oz6 u t H1 locs ht hvm gz5 hB hz1 hk1 hS => ?_)
  generalize H1 = H at hS ⊢
  refine W.widen (k := 305) (n := 4995) (Nat.le_of_ble_eq_true rfl) (Nat.le_of_ble_eq_true rfl) ?_
  obtain rfl := gz5
  refine lv_icmp_eq (tgt := 2293) hx hb dL_law_1614 (by decide) (fun cz7 => ?_) (fun cz7 => ?_)
  · skip
    exact law_end (dC := dC) (dI := dI) (Nat.le_of_eq hL6) C0 A hAe (q 0) (r 0) H locs hS ls hl
  · skip
    exact absurd cz7 (by decide)
set_option maxHeartbeats 4000000 in
set_option maxRecDepth 100000 in
theorem law_case_51 {p : Program} {l : Launch} {e : Env} {s : State} {m : MethodId} {below : List Frame} {meth : Method} {c : Code} {dC : Nat → ClassId} {dI : Nat → Nat → Nat} {b L : Nat} {xs : Nat → Int32} (hL6 : L = 6) (C0 : lw_At p s m meth c b L xs) (A : Nat → Prop) (hAe : A = fun q => s.heap.size ≤ q) (q r : Nat → Nat) (k j : Nat → ClassId) (H : Heap) (locs : List Loc) (hK : va_K (dC, dI) vwCl (tX k ++ tM j) s) (hP : va_P (dC, dI) vwCl (wX q k ++ wM r j) H) (hD : va_D A (wX q k ++ wM r j)) (hS : va_S A s.heap H locs) (ls : Array Slot) (hl : lv_has ls 4 [(0, .ref b), (1, .ref (q 0)), (2, .ref (r 0)), (3, .int 0)]) : W p l e room_1 s m #[Value.ref b] below meth c H locs 305 4995 (lw_Z below #[Value.ref b] s) (F0 m 1619 ls []) := by
  obtain ⟨hx, hb, hr, hml, hown, hts, hX, hbl, hlocks, hgv⟩ := id C0
  have hown : s.vm.findClass RL = some m.cls := hown
  have hA : ∀ q : Nat, s.heap.size ≤ q → A q := by rw [hAe]; exact fun _ h => h
  have hbA : ¬ A b := by rw [hAe]; exact Nat.not_le.mpr hbl
  refine lv_aload_n hx hb dL_law_1619 rfl (lv_at hl 1 rfl) ?_
  refine lv_aload_n hx hb dL_law_1620 rfl (lv_at hl 0 rfl) ?_
  refine lv_iload_n hx hb dL_law_1621 rfl (lv_at hl 3 rfl) ?_
  refine lv_iconst (v := 1) hx hb dL_law_1622 (by decide) ?_
  refine lv_iadd hx hb dL_law_1623 ?_
  refine lv_topi (fun xz1 exz1 => ?_)
  obtain rfl : xz1 = 1 := exz1.trans (by decide)
  refine va_sld hx hb hX hbl hbA hS (by rw [hL6]; unfold vp_in; decide) dL_law_1624 ?_
  refine W.eq (g2 := F0 m 1625 ls [.int (xs 1), .ref (q 0)]) rfl ?_
  have hPc := hP.sub (ws' := [((q 0), .inr (11, [.ref (q 1), .ref (q 2), .ref (q 3), .ref (q 4), .ref (q 5), .ref (q 6), .ref (q 7), .ref (q 8), .ref (q 9), .ref (q 10), .ref (q 11), .ref (q 12), .ref (q 13), .ref (q 14), .ref (q 15)])), ((q 2), .inr (10, [.ref (q 25), .ref (q 26), .ref (q 27), .ref (q 28), .ref (q 29), .ref (q 30), .ref (q 31), .int 0, .int 0, .int 0, .int 0, .int 0, .int 0, .int 0, .int 0, .int 0]))]) [0, 11] rfl
  have hKc := hK.sub (tys' := []) [] rfl
  refine vp_callSi (va_Run.run (va_runV (As := [.int (xs 1)]) (rest := []) ⟨hx, hb, hml, hown, hts⟩ (f_X11_laws l dC dI ((q 0)) ((q 1)) ((q 2)) ((q 3)) ((q 4)) ((q 5)) ((q 6)) ((q 7)) ((q 8)) ((q 9)) ((q 10)) ((q 11)) ((q 12)) ((q 13)) ((q 14)) ((q 15)) ((q 25)) ((q 26)) ((q 27)) ((q 28)) ((q 29)) ((q 30)) ((q 31)) ((xs 1))) (cwV 1 hts (gk_V tw_1004 tw_1005 tw_1006 tw_157 wki_f_X11_laws wkg_f_X11_laws) rfl rfl rfl (by decide +kernel) ⟨Nat.le_of_ble_eq_true rfl, Nat.le_of_ble_eq_true rfl⟩) ⟨fun a U g mk q => by obtain ⟨q0, qP, qK⟩ := q; exact ⟨q0, qP, va_K.moved (u := U) (U := U.calling g mk a) (Vm.Alike.refl U.vm) qK⟩, va_recv hKc hPc (ci := 11) (q0 := 0) rfl rfl, fun U hU hW => ⟨rfl, by rw [hU]; exact hPc, va_K.moved hW.alike hKc⟩⟩ rfl rfl hl.1 rfl (lv_room (Nat.le_of_ble_eq_true rfl)) dL_law_1625 ⟨Nat.le_of_ble_eq_true rfl, Nat.le_of_ble_eq_true rfl⟩)) (fun oz3 gz2 => ?_)
  obtain rfl := gz2
  refine lv_aload_n hx hb dL_law_1628 rfl (lv_at hl 2 rfl) ?_
  refine lv_aload_n hx hb dL_law_1629 rfl (lv_at hl 0 rfl) ?_
  refine lv_iload_n hx hb dL_law_1630 rfl (lv_at hl 3 rfl) ?_
  refine lv_iconst (v := 1) hx hb dL_law_1631 (by decide) ?_
  refine lv_iadd hx hb dL_law_1632 ?_
  refine lv_topi (fun xz4 exz4 => ?_)
  obtain rfl : xz4 = 1 := exz4.trans (by decide)
  refine va_sld hx hb hX hbl hbA hS (by rw [hL6]; unfold vp_in; decide) dL_law_1633 ?_
  refine W.eq (g2 := F0 m 1634 ls [.int (xs 1), .ref (r 0), .int (-2)]) rfl ?_
  have hPc := hP.sub (ws' := [((r 0), .inr (12, [.int 0, .ref (r 1), .ref (r 2), .ref (r 3), .ref (r 4), .ref (r 5), .int 0, .int 0, .int 0, .int 0, .int 0, .long 0, .int 0, .int 0, .int 0, .int (-1), .ref (r 6), .ref (r 7), .ref (r 8), .ref (r 9), .ref (r 10), .ref (r 11), .ref (r 12), .ref (r 13), .int 0, .int 0, .int 0, .ref (r 14), .ref (r 15), .ref (r 16), .ref (r 17), .ref (r 18), .ref (r 19), .ref (r 20), .ref (r 21), .ref (r 22), .ref (r 23), .ref (r 24), .ref (r 25), .ref (r 26), .ref (r 27), .ref (r 28), .ref (r 29), .int 0, .int 0, .int 0, .ref (r 30), .int 0, .int 0, .int 0, .int 0, .int 0, .int 0, .ref (r 31), .int 0, .int 0, .int 0, .ref (r 32), .ref (r 33)])), ((r 6), .inl ((j 4), 5, .inl (fun _ => 0))), ((r 7), .inl ((j 5), 40, .inl (fun _ => 0)))]) [78, 83, 84] rfl
  have hKc := hK.sub (tys' := [((j 4), .int), ((j 5), .int)]) [60, 61] rfl
  have hDc := hD.sub (ws' := [((r 0), .inr (12, [.int 0, .ref (r 1), .ref (r 2), .ref (r 3), .ref (r 4), .ref (r 5), .int 0, .int 0, .int 0, .int 0, .int 0, .long 0, .int 0, .int 0, .int 0, .int (-1), .ref (r 6), .ref (r 7), .ref (r 8), .ref (r 9), .ref (r 10), .ref (r 11), .ref (r 12), .ref (r 13), .int 0, .int 0, .int 0, .ref (r 14), .ref (r 15), .ref (r 16), .ref (r 17), .ref (r 18), .ref (r 19), .ref (r 20), .ref (r 21), .ref (r 22), .ref (r 23), .ref (r 24), .ref (r 25), .ref (r 26), .ref (r 27), .ref (r 28), .ref (r 29), .int 0, .int 0, .int 0, .ref (r 30), .int 0, .int 0, .int 0, .int 0, .int 0, .int 0, .ref (r 31), .int 0, .int 0, .int 0, .ref (r 32), .ref (r 33)])), ((r 6), .inl ((j 4), 5, .inl (fun _ => 0))), ((r 7), .inl ((j 5), 40, .inl (fun _ => 0)))]) [78, 83, 84] (by decide) rfl
  have hFc := va_free (wc := [((r 0), .inr (12, [.int 0, .ref (r 1), .ref (r 2), .ref (r 3), .ref (r 4), .ref (r 5), .int 0, .int 0, .int 0, .int 0, .int 0, .long 0, .int 0, .int 0, .int 0, .int (-1), .ref (r 6), .ref (r 7), .ref (r 8), .ref (r 9), .ref (r 10), .ref (r 11), .ref (r 12), .ref (r 13), .int 0, .int 0, .int 0, .ref (r 14), .ref (r 15), .ref (r 16), .ref (r 17), .ref (r 18), .ref (r 19), .ref (r 20), .ref (r 21), .ref (r 22), .ref (r 23), .ref (r 24), .ref (r 25), .ref (r 26), .ref (r 27), .ref (r 28), .ref (r 29), .int 0, .int 0, .int 0, .ref (r 30), .int 0, .int 0, .int 0, .int 0, .int 0, .int 0, .ref (r 31), .int 0, .int 0, .int 0, .ref (r 32), .ref (r 33)])), ((r 6), .inl ((j 4), 5, .inl (fun _ => 0))), ((r 7), .inl ((j 5), 40, .inl (fun _ => 0)))]) hD hS hA [78, 83, 84] rfl
  refine va_calli (va_runV (As := [.int (xs 1)]) (rest := [.int (-2)]) ⟨hx, hb, hml, hown, hts⟩ (f_X12_laws l dC dI H.size ((r 0)) ((r 1)) ((r 2)) ((r 3)) ((r 4)) ((r 5)) ((r 6)) ((r 7)) ((r 8)) ((r 9)) ((r 10)) ((r 11)) ((r 12)) ((r 13)) ((r 14)) ((r 15)) ((r 16)) ((r 17)) ((r 18)) ((r 19)) ((r 20)) ((r 21)) ((r 22)) ((r 23)) ((r 24)) ((r 25)) ((r 26)) ((r 27)) ((r 28)) ((r 29)) ((r 30)) ((r 31)) ((r 32)) ((r 33)) ((j 4)) ((j 5)) ((xs 1))) (cwV 1 hts (gk_V tw_1007 tw_1008 tw_1009 tw_505 wki_f_X12_laws wkg_f_X12_laws) rfl rfl rfl (by decide +kernel) ⟨Nat.le_of_ble_eq_true rfl, Nat.le_of_ble_eq_true rfl⟩) ⟨fun a U g mk q => by obtain ⟨q0, q1, qP, qK, qD⟩ := q; exact ⟨q0, q1, qP, va_K.moved (u := U) (U := U.calling g mk a) (Vm.Alike.refl U.vm) qK, qD⟩, va_recv hKc hPc (ci := 12) (q0 := 0) rfl rfl, fun U hU hW => ⟨rfl, by rw [hU], by rw [hU]; exact hPc, va_K.moved hW.alike hKc, hDc.weaken (fun _ _ _ _ => trivial)⟩⟩ rfl rfl hl.1 rfl (lv_room (Nat.le_of_ble_eq_true rfl)) dL_law_1634 ⟨Nat.le_of_ble_eq_true rfl, Nat.le_of_ble_eq_true rfl⟩) hS (fun q _ h => hFc q h) hFc (fun oz6 u t H1 locs ht hvm gz5 hB hz1 hk1 hS => ?_)
  generalize H1 = H at hS ⊢
  refine W.widen (k := 305) (n := 4995) (Nat.le_of_ble_eq_true rfl) (Nat.le_of_ble_eq_true rfl) ?_
  obtain rfl := gz5
  refine lv_icmp_eq (tgt := 2293) hx hb dL_law_1637 (by decide) (fun cz7 => ?_) (fun cz7 => ?_)
  · skip
    exact law_end (dC := dC) (dI := dI) (Nat.le_of_eq hL6) C0 A hAe (q 0) (r 0) H locs hS ls hl
  · skip
    exact absurd cz7 (by decide)
set_option maxHeartbeats 4000000 in
set_option maxRecDepth 100000 in
theorem law_case_52 {p : Program} {l : Launch} {e : Env} {s : State} {m : MethodId} {below : List Frame} {meth : Method} {c : Code} {dC : Nat → ClassId} {dI : Nat → Nat → Nat} {b L : Nat} {xs : Nat → Int32} (hL6 : L = 6) (C0 : lw_At p s m meth c b L xs) (A : Nat → Prop) (hAe : A = fun q => s.heap.size ≤ q) (q r : Nat → Nat) (k j : Nat → ClassId) (H : Heap) (locs : List Loc) (hK : va_K (dC, dI) vwCl (tX k ++ tM j) s) (hP : va_P (dC, dI) vwCl (wX q k ++ wM r j) H) (hD : va_D A (wX q k ++ wM r j)) (hS : va_S A s.heap H locs) (ls : Array Slot) (hl : lv_has ls 4 [(0, .ref b), (1, .ref (q 0)), (2, .ref (r 0)), (3, .int 0)]) : W p l e room_1 s m #[Value.ref b] below meth c H locs 305 4995 (lw_Z below #[Value.ref b] s) (F0 m 1642 ls []) := by
  obtain ⟨hx, hb, hr, hml, hown, hts, hX, hbl, hlocks, hgv⟩ := id C0
  have hown : s.vm.findClass RL = some m.cls := hown
  have hA : ∀ q : Nat, s.heap.size ≤ q → A q := by rw [hAe]; exact fun _ h => h
  have hbA : ¬ A b := by rw [hAe]; exact Nat.not_le.mpr hbl
  refine lv_aload_n hx hb dL_law_1642 rfl (lv_at hl 1 rfl) ?_
  refine lv_aload_n hx hb dL_law_1643 rfl (lv_at hl 0 rfl) ?_
  refine lv_iload_n hx hb dL_law_1644 rfl (lv_at hl 3 rfl) ?_
  refine lv_iconst (v := 1) hx hb dL_law_1645 (by decide) ?_
  refine lv_iadd hx hb dL_law_1646 ?_
  refine lv_topi (fun xz1 exz1 => ?_)
  obtain rfl : xz1 = 1 := exz1.trans (by decide)
  refine va_sld hx hb hX hbl hbA hS (by rw [hL6]; unfold vp_in; decide) dL_law_1647 ?_
  refine W.eq (g2 := F0 m 1648 ls [.int (xs 1), .ref (q 0)]) rfl ?_
  have hPc := hP.sub (ws' := [((q 0), .inr (11, [.ref (q 1), .ref (q 2), .ref (q 3), .ref (q 4), .ref (q 5), .ref (q 6), .ref (q 7), .ref (q 8), .ref (q 9), .ref (q 10), .ref (q 11), .ref (q 12), .ref (q 13), .ref (q 14), .ref (q 15)])), ((q 2), .inr (10, [.ref (q 25), .ref (q 26), .ref (q 27), .ref (q 28), .ref (q 29), .ref (q 30), .ref (q 31), .int 0, .int 0, .int 0, .int 0, .int 0, .int 0, .int 0, .int 0, .int 0]))]) [0, 11] rfl
  have hKc := hK.sub (tys' := []) [] rfl
  refine vp_callSi (va_Run.run (va_runV (As := [.int (xs 1)]) (rest := []) ⟨hx, hb, hml, hown, hts⟩ (f_X11_by l dC dI ((q 0)) ((q 1)) ((q 2)) ((q 3)) ((q 4)) ((q 5)) ((q 6)) ((q 7)) ((q 8)) ((q 9)) ((q 10)) ((q 11)) ((q 12)) ((q 13)) ((q 14)) ((q 15)) ((q 25)) ((q 26)) ((q 27)) ((q 28)) ((q 29)) ((q 30)) ((q 31)) ((xs 1))) (cwV 1 hts (gk_V tw_1010 tw_1011 tw_1012 tw_157 wki_f_X11_by wkg_f_X11_by) rfl rfl rfl (by decide +kernel) ⟨Nat.le_of_ble_eq_true rfl, Nat.le_of_ble_eq_true rfl⟩) ⟨fun a U g mk q => by obtain ⟨q0, qP, qK⟩ := q; exact ⟨q0, qP, va_K.moved (u := U) (U := U.calling g mk a) (Vm.Alike.refl U.vm) qK⟩, va_recv hKc hPc (ci := 11) (q0 := 0) rfl rfl, fun U hU hW => ⟨rfl, by rw [hU]; exact hPc, va_K.moved hW.alike hKc⟩⟩ rfl rfl hl.1 rfl (lv_room (Nat.le_of_ble_eq_true rfl)) dL_law_1648 ⟨Nat.le_of_ble_eq_true rfl, Nat.le_of_ble_eq_true rfl⟩)) (fun oz3 gz2 => ?_)
  obtain rfl := gz2
  refine lv_aload_n hx hb dL_law_1651 rfl (lv_at hl 2 rfl) ?_
  refine lv_aload_n hx hb dL_law_1652 rfl (lv_at hl 0 rfl) ?_
  refine lv_iload_n hx hb dL_law_1653 rfl (lv_at hl 3 rfl) ?_
  refine lv_iconst (v := 1) hx hb dL_law_1654 (by decide) ?_
  refine lv_iadd hx hb dL_law_1655 ?_
  refine lv_topi (fun xz4 exz4 => ?_)
  obtain rfl : xz4 = 1 := exz4.trans (by decide)
  refine va_sld hx hb hX hbl hbA hS (by rw [hL6]; unfold vp_in; decide) dL_law_1656 ?_
  refine W.eq (g2 := F0 m 1657 ls [.int (xs 1), .ref (r 0), .int (-2)]) rfl ?_
  have hPc := hP.sub (ws' := [((r 0), .inr (12, [.int 0, .ref (r 1), .ref (r 2), .ref (r 3), .ref (r 4), .ref (r 5), .int 0, .int 0, .int 0, .int 0, .int 0, .long 0, .int 0, .int 0, .int 0, .int (-1), .ref (r 6), .ref (r 7), .ref (r 8), .ref (r 9), .ref (r 10), .ref (r 11), .ref (r 12), .ref (r 13), .int 0, .int 0, .int 0, .ref (r 14), .ref (r 15), .ref (r 16), .ref (r 17), .ref (r 18), .ref (r 19), .ref (r 20), .ref (r 21), .ref (r 22), .ref (r 23), .ref (r 24), .ref (r 25), .ref (r 26), .ref (r 27), .ref (r 28), .ref (r 29), .int 0, .int 0, .int 0, .ref (r 30), .int 0, .int 0, .int 0, .int 0, .int 0, .int 0, .ref (r 31), .int 0, .int 0, .int 0, .ref (r 32), .ref (r 33)])), ((r 6), .inl ((j 4), 5, .inl (fun _ => 0))), ((r 7), .inl ((j 5), 40, .inl (fun _ => 0)))]) [78, 83, 84] rfl
  have hKc := hK.sub (tys' := [((j 4), .int), ((j 5), .int)]) [60, 61] rfl
  have hDc := hD.sub (ws' := [((r 0), .inr (12, [.int 0, .ref (r 1), .ref (r 2), .ref (r 3), .ref (r 4), .ref (r 5), .int 0, .int 0, .int 0, .int 0, .int 0, .long 0, .int 0, .int 0, .int 0, .int (-1), .ref (r 6), .ref (r 7), .ref (r 8), .ref (r 9), .ref (r 10), .ref (r 11), .ref (r 12), .ref (r 13), .int 0, .int 0, .int 0, .ref (r 14), .ref (r 15), .ref (r 16), .ref (r 17), .ref (r 18), .ref (r 19), .ref (r 20), .ref (r 21), .ref (r 22), .ref (r 23), .ref (r 24), .ref (r 25), .ref (r 26), .ref (r 27), .ref (r 28), .ref (r 29), .int 0, .int 0, .int 0, .ref (r 30), .int 0, .int 0, .int 0, .int 0, .int 0, .int 0, .ref (r 31), .int 0, .int 0, .int 0, .ref (r 32), .ref (r 33)])), ((r 6), .inl ((j 4), 5, .inl (fun _ => 0))), ((r 7), .inl ((j 5), 40, .inl (fun _ => 0)))]) [78, 83, 84] (by decide) rfl
  have hFc := va_free (wc := [((r 0), .inr (12, [.int 0, .ref (r 1), .ref (r 2), .ref (r 3), .ref (r 4), .ref (r 5), .int 0, .int 0, .int 0, .int 0, .int 0, .long 0, .int 0, .int 0, .int 0, .int (-1), .ref (r 6), .ref (r 7), .ref (r 8), .ref (r 9), .ref (r 10), .ref (r 11), .ref (r 12), .ref (r 13), .int 0, .int 0, .int 0, .ref (r 14), .ref (r 15), .ref (r 16), .ref (r 17), .ref (r 18), .ref (r 19), .ref (r 20), .ref (r 21), .ref (r 22), .ref (r 23), .ref (r 24), .ref (r 25), .ref (r 26), .ref (r 27), .ref (r 28), .ref (r 29), .int 0, .int 0, .int 0, .ref (r 30), .int 0, .int 0, .int 0, .int 0, .int 0, .int 0, .ref (r 31), .int 0, .int 0, .int 0, .ref (r 32), .ref (r 33)])), ((r 6), .inl ((j 4), 5, .inl (fun _ => 0))), ((r 7), .inl ((j 5), 40, .inl (fun _ => 0)))]) hD hS hA [78, 83, 84] rfl
  refine va_calli (va_runV (As := [.int (xs 1)]) (rest := [.int (-2)]) ⟨hx, hb, hml, hown, hts⟩ (f_X12_by l dC dI H.size ((r 0)) ((r 1)) ((r 2)) ((r 3)) ((r 4)) ((r 5)) ((r 6)) ((r 7)) ((r 8)) ((r 9)) ((r 10)) ((r 11)) ((r 12)) ((r 13)) ((r 14)) ((r 15)) ((r 16)) ((r 17)) ((r 18)) ((r 19)) ((r 20)) ((r 21)) ((r 22)) ((r 23)) ((r 24)) ((r 25)) ((r 26)) ((r 27)) ((r 28)) ((r 29)) ((r 30)) ((r 31)) ((r 32)) ((r 33)) ((j 4)) ((j 5)) ((xs 1))) (cwV 1 hts (gk_V tw_1013 tw_1014 tw_1015 tw_505 wki_f_X12_by wkg_f_X12_by) rfl rfl rfl (by decide +kernel) ⟨Nat.le_of_ble_eq_true rfl, Nat.le_of_ble_eq_true rfl⟩) ⟨fun a U g mk q => by obtain ⟨q0, q1, qP, qK, qD⟩ := q; exact ⟨q0, q1, qP, va_K.moved (u := U) (U := U.calling g mk a) (Vm.Alike.refl U.vm) qK, qD⟩, va_recv hKc hPc (ci := 12) (q0 := 0) rfl rfl, fun U hU hW => ⟨rfl, by rw [hU], by rw [hU]; exact hPc, va_K.moved hW.alike hKc, hDc.weaken (fun _ _ _ _ => trivial)⟩⟩ rfl rfl hl.1 rfl (lv_room (Nat.le_of_ble_eq_true rfl)) dL_law_1657 ⟨Nat.le_of_ble_eq_true rfl, Nat.le_of_ble_eq_true rfl⟩) hS (fun q _ h => hFc q h) hFc (fun oz6 u t H1 locs ht hvm gz5 hB hz1 hk1 hS => ?_)
  generalize H1 = H at hS ⊢
  refine W.widen (k := 305) (n := 4995) (Nat.le_of_ble_eq_true rfl) (Nat.le_of_ble_eq_true rfl) ?_
  obtain rfl := gz5
  refine lv_icmp_eq (tgt := 2293) hx hb dL_law_1660 (by decide) (fun cz7 => ?_) (fun cz7 => ?_)
  · skip
    exact law_end (dC := dC) (dI := dI) (Nat.le_of_eq hL6) C0 A hAe (q 0) (r 0) H locs hS ls hl
  · skip
    exact absurd cz7 (by decide)
set_option maxHeartbeats 4000000 in
set_option maxRecDepth 100000 in
theorem law_case_53 {p : Program} {l : Launch} {e : Env} {s : State} {m : MethodId} {below : List Frame} {meth : Method} {c : Code} {dC : Nat → ClassId} {dI : Nat → Nat → Nat} {b L : Nat} {xs : Nat → Int32} (hL6 : L = 6) (C0 : lw_At p s m meth c b L xs) (A : Nat → Prop) (hAe : A = fun q => s.heap.size ≤ q) (q r : Nat → Nat) (k j : Nat → ClassId) (H : Heap) (locs : List Loc) (hK : va_K (dC, dI) vwCl (tX k ++ tM j) s) (hP : va_P (dC, dI) vwCl (wX q k ++ wM r j) H) (hD : va_D A (wX q k ++ wM r j)) (hS : va_S A s.heap H locs) (ls : Array Slot) (hl : lv_has ls 4 [(0, .ref b), (1, .ref (q 0)), (2, .ref (r 0)), (3, .int 0)]) : W p l e room_1 s m #[Value.ref b] below meth c H locs 305 4995 (lw_Z below #[Value.ref b] s) (F0 m 1665 ls []) := by
  obtain ⟨hx, hb, hr, hml, hown, hts, hX, hbl, hlocks, hgv⟩ := id C0
  have hown : s.vm.findClass RL = some m.cls := hown
  have hA : ∀ q : Nat, s.heap.size ≤ q → A q := by rw [hAe]; exact fun _ h => h
  have hbA : ¬ A b := by rw [hAe]; exact Nat.not_le.mpr hbl
  refine lv_aload_n hx hb dL_law_1665 rfl (lv_at hl 1 rfl) ?_
  have hPc := hP.sub (ws' := [((q 0), .inr (11, [.ref (q 1), .ref (q 2), .ref (q 3), .ref (q 4), .ref (q 5), .ref (q 6), .ref (q 7), .ref (q 8), .ref (q 9), .ref (q 10), .ref (q 11), .ref (q 12), .ref (q 13), .ref (q 14), .ref (q 15)])), ((q 2), .inr (10, [.ref (q 25), .ref (q 26), .ref (q 27), .ref (q 28), .ref (q 29), .ref (q 30), .ref (q 31), .int 0, .int 0, .int 0, .int 0, .int 0, .int 0, .int 0, .int 0, .int 0]))]) [0, 11] rfl
  have hKc := hK.sub (tys' := []) [] rfl
  refine vp_callSi (va_Run.run (va_runV (As := []) (rest := []) ⟨hx, hb, hml, hown, hts⟩ (f_X11_law l dC dI ((q 0)) ((q 1)) ((q 2)) ((q 3)) ((q 4)) ((q 5)) ((q 6)) ((q 7)) ((q 8)) ((q 9)) ((q 10)) ((q 11)) ((q 12)) ((q 13)) ((q 14)) ((q 15)) ((q 25)) ((q 26)) ((q 27)) ((q 28)) ((q 29)) ((q 30)) ((q 31))) (cwV 0 hts (gk_V tw_1016 tw_1017 tw_1018 tw_157 wki_f_X11_law wkg_f_X11_law) rfl rfl rfl (by decide +kernel) ⟨Nat.le_of_ble_eq_true rfl, Nat.le_of_ble_eq_true rfl⟩) ⟨fun a U g mk q => by obtain ⟨q0, qP, qK⟩ := q; exact ⟨q0, qP, va_K.moved (u := U) (U := U.calling g mk a) (Vm.Alike.refl U.vm) qK⟩, va_recv hKc hPc (ci := 11) (q0 := 0) rfl rfl, fun U hU hW => ⟨rfl, by rw [hU]; exact hPc, va_K.moved hW.alike hKc⟩⟩ rfl rfl hl.1 rfl (lv_room (Nat.le_of_ble_eq_true rfl)) dL_law_1666 ⟨Nat.le_of_ble_eq_true rfl, Nat.le_of_ble_eq_true rfl⟩)) (fun oz2 gz1 => ?_)
  obtain rfl := gz1
  refine lv_aload_n hx hb dL_law_1669 rfl (lv_at hl 2 rfl) ?_
  have hPc := hP.sub (ws' := [((r 0), .inr (12, [.int 0, .ref (r 1), .ref (r 2), .ref (r 3), .ref (r 4), .ref (r 5), .int 0, .int 0, .int 0, .int 0, .int 0, .long 0, .int 0, .int 0, .int 0, .int (-1), .ref (r 6), .ref (r 7), .ref (r 8), .ref (r 9), .ref (r 10), .ref (r 11), .ref (r 12), .ref (r 13), .int 0, .int 0, .int 0, .ref (r 14), .ref (r 15), .ref (r 16), .ref (r 17), .ref (r 18), .ref (r 19), .ref (r 20), .ref (r 21), .ref (r 22), .ref (r 23), .ref (r 24), .ref (r 25), .ref (r 26), .ref (r 27), .ref (r 28), .ref (r 29), .int 0, .int 0, .int 0, .ref (r 30), .int 0, .int 0, .int 0, .int 0, .int 0, .int 0, .ref (r 31), .int 0, .int 0, .int 0, .ref (r 32), .ref (r 33)])), ((r 6), .inl ((j 4), 5, .inl (fun _ => 0))), ((r 7), .inl ((j 5), 40, .inl (fun _ => 0)))]) [78, 83, 84] rfl
  have hKc := hK.sub (tys' := [((j 4), .int), ((j 5), .int)]) [60, 61] rfl
  have hDc := hD.sub (ws' := [((r 0), .inr (12, [.int 0, .ref (r 1), .ref (r 2), .ref (r 3), .ref (r 4), .ref (r 5), .int 0, .int 0, .int 0, .int 0, .int 0, .long 0, .int 0, .int 0, .int 0, .int (-1), .ref (r 6), .ref (r 7), .ref (r 8), .ref (r 9), .ref (r 10), .ref (r 11), .ref (r 12), .ref (r 13), .int 0, .int 0, .int 0, .ref (r 14), .ref (r 15), .ref (r 16), .ref (r 17), .ref (r 18), .ref (r 19), .ref (r 20), .ref (r 21), .ref (r 22), .ref (r 23), .ref (r 24), .ref (r 25), .ref (r 26), .ref (r 27), .ref (r 28), .ref (r 29), .int 0, .int 0, .int 0, .ref (r 30), .int 0, .int 0, .int 0, .int 0, .int 0, .int 0, .ref (r 31), .int 0, .int 0, .int 0, .ref (r 32), .ref (r 33)])), ((r 6), .inl ((j 4), 5, .inl (fun _ => 0))), ((r 7), .inl ((j 5), 40, .inl (fun _ => 0)))]) [78, 83, 84] (by decide) rfl
  have hFc := va_free (wc := [((r 0), .inr (12, [.int 0, .ref (r 1), .ref (r 2), .ref (r 3), .ref (r 4), .ref (r 5), .int 0, .int 0, .int 0, .int 0, .int 0, .long 0, .int 0, .int 0, .int 0, .int (-1), .ref (r 6), .ref (r 7), .ref (r 8), .ref (r 9), .ref (r 10), .ref (r 11), .ref (r 12), .ref (r 13), .int 0, .int 0, .int 0, .ref (r 14), .ref (r 15), .ref (r 16), .ref (r 17), .ref (r 18), .ref (r 19), .ref (r 20), .ref (r 21), .ref (r 22), .ref (r 23), .ref (r 24), .ref (r 25), .ref (r 26), .ref (r 27), .ref (r 28), .ref (r 29), .int 0, .int 0, .int 0, .ref (r 30), .int 0, .int 0, .int 0, .int 0, .int 0, .int 0, .ref (r 31), .int 0, .int 0, .int 0, .ref (r 32), .ref (r 33)])), ((r 6), .inl ((j 4), 5, .inl (fun _ => 0))), ((r 7), .inl ((j 5), 40, .inl (fun _ => 0)))]) hD hS hA [78, 83, 84] rfl
  refine va_calli (va_runV (As := []) (rest := [.int (-2)]) ⟨hx, hb, hml, hown, hts⟩ (f_X12_law l dC dI H.size ((r 0)) ((r 1)) ((r 2)) ((r 3)) ((r 4)) ((r 5)) ((r 6)) ((r 7)) ((r 8)) ((r 9)) ((r 10)) ((r 11)) ((r 12)) ((r 13)) ((r 14)) ((r 15)) ((r 16)) ((r 17)) ((r 18)) ((r 19)) ((r 20)) ((r 21)) ((r 22)) ((r 23)) ((r 24)) ((r 25)) ((r 26)) ((r 27)) ((r 28)) ((r 29)) ((r 30)) ((r 31)) ((r 32)) ((r 33)) ((j 4)) ((j 5))) (cwV 0 hts (gk_V tw_1019 tw_1020 tw_1021 tw_505 wki_f_X12_law wkg_f_X12_law) rfl rfl rfl (by decide +kernel) ⟨Nat.le_of_ble_eq_true rfl, Nat.le_of_ble_eq_true rfl⟩) ⟨fun a U g mk q => by obtain ⟨q0, q1, qP, qK, qD⟩ := q; exact ⟨q0, q1, qP, va_K.moved (u := U) (U := U.calling g mk a) (Vm.Alike.refl U.vm) qK, qD⟩, va_recv hKc hPc (ci := 12) (q0 := 0) rfl rfl, fun U hU hW => ⟨rfl, by rw [hU], by rw [hU]; exact hPc, va_K.moved hW.alike hKc, hDc.weaken (fun _ _ _ _ => trivial)⟩⟩ rfl rfl hl.1 rfl (lv_room (Nat.le_of_ble_eq_true rfl)) dL_law_1670 ⟨Nat.le_of_ble_eq_true rfl, Nat.le_of_ble_eq_true rfl⟩) hS (fun q _ h => hFc q h) hFc (fun oz4 u t H1 locs ht hvm gz3 hB hz1 hk1 hS => ?_)
  generalize H1 = H at hS ⊢
  refine W.widen (k := 305) (n := 4995) (Nat.le_of_ble_eq_true rfl) (Nat.le_of_ble_eq_true rfl) ?_
  obtain rfl := gz3
  refine lv_icmp_eq (tgt := 2293) hx hb dL_law_1673 (by decide) (fun cz5 => ?_) (fun cz5 => ?_)
  · skip
    exact law_end (dC := dC) (dI := dI) (Nat.le_of_eq hL6) C0 A hAe (q 0) (r 0) H locs hS ls hl
  · skip
    exact absurd cz5 (by decide)
set_option maxHeartbeats 4000000 in
set_option maxRecDepth 100000 in
theorem law_case_54 {p : Program} {l : Launch} {e : Env} {s : State} {m : MethodId} {below : List Frame} {meth : Method} {c : Code} {dC : Nat → ClassId} {dI : Nat → Nat → Nat} {b L : Nat} {xs : Nat → Int32} (hL6 : L = 6) (C0 : lw_At p s m meth c b L xs) (A : Nat → Prop) (hAe : A = fun q => s.heap.size ≤ q) (q r : Nat → Nat) (k j : Nat → ClassId) (H : Heap) (locs : List Loc) (hK : va_K (dC, dI) vwCl (tX k ++ tM j) s) (hP : va_P (dC, dI) vwCl (wX q k ++ wM r j) H) (hD : va_D A (wX q k ++ wM r j)) (hS : va_S A s.heap H locs) (ls : Array Slot) (hl : lv_has ls 4 [(0, .ref b), (1, .ref (q 0)), (2, .ref (r 0)), (3, .int 0)]) : W p l e room_1 s m #[Value.ref b] below meth c H locs 305 4995 (lw_Z below #[Value.ref b] s) (F0 m 1678 ls []) := by
  obtain ⟨hx, hb, hr, hml, hown, hts, hX, hbl, hlocks, hgv⟩ := id C0
  have hown : s.vm.findClass RL = some m.cls := hown
  have hA : ∀ q : Nat, s.heap.size ≤ q → A q := by rw [hAe]; exact fun _ h => h
  have hbA : ¬ A b := by rw [hAe]; exact Nat.not_le.mpr hbl
  refine lv_aload_n hx hb dL_law_1678 rfl (lv_at hl 1 rfl) ?_
  refine lv_aload_n hx hb dL_law_1679 rfl (lv_at hl 0 rfl) ?_
  refine lv_iload_n hx hb dL_law_1680 rfl (lv_at hl 3 rfl) ?_
  refine lv_iconst (v := 1) hx hb dL_law_1681 (by decide) ?_
  refine lv_iadd hx hb dL_law_1682 ?_
  refine lv_topi (fun xz1 exz1 => ?_)
  obtain rfl : xz1 = 1 := exz1.trans (by decide)
  refine va_sld hx hb hX hbl hbA hS (by rw [hL6]; unfold vp_in; decide) dL_law_1683 ?_
  refine W.eq (g2 := F0 m 1684 ls [.int (xs 1), .ref (q 0)]) rfl ?_
  refine lv_aload_n hx hb dL_law_1684 rfl (lv_at hl 0 rfl) ?_
  refine lv_iload_n hx hb dL_law_1685 rfl (lv_at hl 3 rfl) ?_
  refine lv_iconst (v := 2) hx hb dL_law_1686 (by decide) ?_
  refine lv_iadd hx hb dL_law_1687 ?_
  refine lv_topi (fun xz2 exz2 => ?_)
  obtain rfl : xz2 = 2 := exz2.trans (by decide)
  refine va_sld hx hb hX hbl hbA hS (by rw [hL6]; unfold vp_in; decide) dL_law_1688 ?_
  refine W.eq (g2 := F0 m 1689 ls [.int (xs 2), .int (xs 1), .ref (q 0)]) rfl ?_
  have hPc := hP.sub (ws' := [((q 0), .inr (11, [.ref (q 1), .ref (q 2), .ref (q 3), .ref (q 4), .ref (q 5), .ref (q 6), .ref (q 7), .ref (q 8), .ref (q 9), .ref (q 10), .ref (q 11), .ref (q 12), .ref (q 13), .ref (q 14), .ref (q 15)])), ((q 2), .inr (10, [.ref (q 25), .ref (q 26), .ref (q 27), .ref (q 28), .ref (q 29), .ref (q 30), .ref (q 31), .int 0, .int 0, .int 0, .int 0, .int 0, .int 0, .int 0, .int 0, .int 0]))]) [0, 11] rfl
  have hKc := hK.sub (tys' := []) [] rfl
  refine vp_callSi (va_Run.run (va_runV (As := [.int (xs 1), .int (xs 2)]) (rest := []) ⟨hx, hb, hml, hown, hts⟩ (f_X11_share l dC dI ((q 0)) ((q 1)) ((q 2)) ((q 3)) ((q 4)) ((q 5)) ((q 6)) ((q 7)) ((q 8)) ((q 9)) ((q 10)) ((q 11)) ((q 12)) ((q 13)) ((q 14)) ((q 15)) ((q 25)) ((q 26)) ((q 27)) ((q 28)) ((q 29)) ((q 30)) ((q 31)) ((xs 1)) ((xs 2))) (cwV 2 hts (gk_V tw_1022 tw_1023 tw_1024 tw_157 wki_f_X11_share wkg_f_X11_share) rfl rfl rfl (by decide +kernel) ⟨Nat.le_of_ble_eq_true rfl, Nat.le_of_ble_eq_true rfl⟩) ⟨fun a U g mk q => by obtain ⟨q0, qP, qK⟩ := q; exact ⟨q0, qP, va_K.moved (u := U) (U := U.calling g mk a) (Vm.Alike.refl U.vm) qK⟩, va_recv hKc hPc (ci := 11) (q0 := 0) rfl rfl, fun U hU hW => ⟨rfl, by rw [hU]; exact hPc, va_K.moved hW.alike hKc⟩⟩ rfl rfl hl.1 rfl (lv_room (Nat.le_of_ble_eq_true rfl)) dL_law_1689 ⟨Nat.le_of_ble_eq_true rfl, Nat.le_of_ble_eq_true rfl⟩)) (fun oz4 gz3 => ?_)
  obtain rfl := gz3
  refine lv_aload_n hx hb dL_law_1692 rfl (lv_at hl 2 rfl) ?_
  refine lv_aload_n hx hb dL_law_1693 rfl (lv_at hl 0 rfl) ?_
  refine lv_iload_n hx hb dL_law_1694 rfl (lv_at hl 3 rfl) ?_
  refine lv_iconst (v := 1) hx hb dL_law_1695 (by decide) ?_
  refine lv_iadd hx hb dL_law_1696 ?_
  refine lv_topi (fun xz5 exz5 => ?_)
  obtain rfl : xz5 = 1 := exz5.trans (by decide)
  refine va_sld hx hb hX hbl hbA hS (by rw [hL6]; unfold vp_in; decide) dL_law_1697 ?_
  refine W.eq (g2 := F0 m 1698 ls [.int (xs 1), .ref (r 0), .int (-2)]) rfl ?_
  refine lv_aload_n hx hb dL_law_1698 rfl (lv_at hl 0 rfl) ?_
  refine lv_iload_n hx hb dL_law_1699 rfl (lv_at hl 3 rfl) ?_
  refine lv_iconst (v := 2) hx hb dL_law_1700 (by decide) ?_
  refine lv_iadd hx hb dL_law_1701 ?_
  refine lv_topi (fun xz6 exz6 => ?_)
  obtain rfl : xz6 = 2 := exz6.trans (by decide)
  refine va_sld hx hb hX hbl hbA hS (by rw [hL6]; unfold vp_in; decide) dL_law_1702 ?_
  refine W.eq (g2 := F0 m 1703 ls [.int (xs 2), .int (xs 1), .ref (r 0), .int (-2)]) rfl ?_
  have hPc := hP.sub (ws' := [((r 0), .inr (12, [.int 0, .ref (r 1), .ref (r 2), .ref (r 3), .ref (r 4), .ref (r 5), .int 0, .int 0, .int 0, .int 0, .int 0, .long 0, .int 0, .int 0, .int 0, .int (-1), .ref (r 6), .ref (r 7), .ref (r 8), .ref (r 9), .ref (r 10), .ref (r 11), .ref (r 12), .ref (r 13), .int 0, .int 0, .int 0, .ref (r 14), .ref (r 15), .ref (r 16), .ref (r 17), .ref (r 18), .ref (r 19), .ref (r 20), .ref (r 21), .ref (r 22), .ref (r 23), .ref (r 24), .ref (r 25), .ref (r 26), .ref (r 27), .ref (r 28), .ref (r 29), .int 0, .int 0, .int 0, .ref (r 30), .int 0, .int 0, .int 0, .int 0, .int 0, .int 0, .ref (r 31), .int 0, .int 0, .int 0, .ref (r 32), .ref (r 33)])), ((r 6), .inl ((j 4), 5, .inl (fun _ => 0))), ((r 7), .inl ((j 5), 40, .inl (fun _ => 0)))]) [78, 83, 84] rfl
  have hKc := hK.sub (tys' := [((j 4), .int), ((j 5), .int)]) [60, 61] rfl
  have hDc := hD.sub (ws' := [((r 0), .inr (12, [.int 0, .ref (r 1), .ref (r 2), .ref (r 3), .ref (r 4), .ref (r 5), .int 0, .int 0, .int 0, .int 0, .int 0, .long 0, .int 0, .int 0, .int 0, .int (-1), .ref (r 6), .ref (r 7), .ref (r 8), .ref (r 9), .ref (r 10), .ref (r 11), .ref (r 12), .ref (r 13), .int 0, .int 0, .int 0, .ref (r 14), .ref (r 15), .ref (r 16), .ref (r 17), .ref (r 18), .ref (r 19), .ref (r 20), .ref (r 21), .ref (r 22), .ref (r 23), .ref (r 24), .ref (r 25), .ref (r 26), .ref (r 27), .ref (r 28), .ref (r 29), .int 0, .int 0, .int 0, .ref (r 30), .int 0, .int 0, .int 0, .int 0, .int 0, .int 0, .ref (r 31), .int 0, .int 0, .int 0, .ref (r 32), .ref (r 33)])), ((r 6), .inl ((j 4), 5, .inl (fun _ => 0))), ((r 7), .inl ((j 5), 40, .inl (fun _ => 0)))]) [78, 83, 84] (by decide) rfl
  have hFc := va_free (wc := [((r 0), .inr (12, [.int 0, .ref (r 1), .ref (r 2), .ref (r 3), .ref (r 4), .ref (r 5), .int 0, .int 0, .int 0, .int 0, .int 0, .long 0, .int 0, .int 0, .int 0, .int (-1), .ref (r 6), .ref (r 7), .ref (r 8), .ref (r 9), .ref (r 10), .ref (r 11), .ref (r 12), .ref (r 13), .int 0, .int 0, .int 0, .ref (r 14), .ref (r 15), .ref (r 16), .ref (r 17), .ref (r 18), .ref (r 19), .ref (r 20), .ref (r 21), .ref (r 22), .ref (r 23), .ref (r 24), .ref (r 25), .ref (r 26), .ref (r 27), .ref (r 28), .ref (r 29), .int 0, .int 0, .int 0, .ref (r 30), .int 0, .int 0, .int 0, .int 0, .int 0, .int 0, .ref (r 31), .int 0, .int 0, .int 0, .ref (r 32), .ref (r 33)])), ((r 6), .inl ((j 4), 5, .inl (fun _ => 0))), ((r 7), .inl ((j 5), 40, .inl (fun _ => 0)))]) hD hS hA [78, 83, 84] rfl
  refine va_calli (va_runV (As := [.int (xs 1), .int (xs 2)]) (rest := [.int (-2)]) ⟨hx, hb, hml, hown, hts⟩ (f_X12_share l dC dI H.size ((r 0)) ((r 1)) ((r 2)) ((r 3)) ((r 4)) ((r 5)) ((r 6)) ((r 7)) ((r 8)) ((r 9)) ((r 10)) ((r 11)) ((r 12)) ((r 13)) ((r 14)) ((r 15)) ((r 16)) ((r 17)) ((r 18)) ((r 19)) ((r 20)) ((r 21)) ((r 22)) ((r 23)) ((r 24)) ((r 25)) ((r 26)) ((r 27)) ((r 28)) ((r 29)) ((r 30)) ((r 31)) ((r 32)) ((r 33)) ((j 4)) ((j 5)) ((xs 1)) ((xs 2))) (cwV 2 hts (gk_V tw_1025 tw_1026 tw_1027 tw_505 wki_f_X12_share wkg_f_X12_share) rfl rfl rfl (by decide +kernel) ⟨Nat.le_of_ble_eq_true rfl, Nat.le_of_ble_eq_true rfl⟩) ⟨fun a U g mk q => by obtain ⟨q0, q1, qP, qK, qD⟩ := q; exact ⟨q0, q1, qP, va_K.moved (u := U) (U := U.calling g mk a) (Vm.Alike.refl U.vm) qK, qD⟩, va_recv hKc hPc (ci := 12) (q0 := 0) rfl rfl, fun U hU hW => ⟨rfl, by rw [hU], by rw [hU]; exact hPc, va_K.moved hW.alike hKc, hDc.weaken (fun _ _ _ _ => trivial)⟩⟩ rfl rfl hl.1 rfl (lv_room (Nat.le_of_ble_eq_true rfl)) dL_law_1703 ⟨Nat.le_of_ble_eq_true rfl, Nat.le_of_ble_eq_true rfl⟩) hS (fun q _ h => hFc q h) hFc (fun oz8 u t H1 locs ht hvm gz7 hB hz1 hk1 hS => ?_)
  generalize H1 = H at hS ⊢
  refine W.widen (k := 305) (n := 4995) (Nat.le_of_ble_eq_true rfl) (Nat.le_of_ble_eq_true rfl) ?_
  obtain rfl := gz7
  refine lv_icmp_eq (tgt := 2293) hx hb dL_law_1706 (by decide) (fun cz9 => ?_) (fun cz9 => ?_)
  · skip
    exact law_end (dC := dC) (dI := dI) (Nat.le_of_eq hL6) C0 A hAe (q 0) (r 0) H locs hS ls hl
  · skip
    exact absurd cz9 (by decide)
set_option maxHeartbeats 4000000 in
set_option maxRecDepth 100000 in
theorem law_case_55 {p : Program} {l : Launch} {e : Env} {s : State} {m : MethodId} {below : List Frame} {meth : Method} {c : Code} {dC : Nat → ClassId} {dI : Nat → Nat → Nat} {b L : Nat} {xs : Nat → Int32} (hL6 : L = 6) (C0 : lw_At p s m meth c b L xs) (A : Nat → Prop) (hAe : A = fun q => s.heap.size ≤ q) (q r : Nat → Nat) (k j : Nat → ClassId) (H : Heap) (locs : List Loc) (hK : va_K (dC, dI) vwCl (tX k ++ tM j) s) (hP : va_P (dC, dI) vwCl (wX q k ++ wM r j) H) (hD : va_D A (wX q k ++ wM r j)) (hS : va_S A s.heap H locs) (ls : Array Slot) (hl : lv_has ls 4 [(0, .ref b), (1, .ref (q 0)), (2, .ref (r 0)), (3, .int 0)]) : W p l e room_1 s m #[Value.ref b] below meth c H locs 305 4995 (lw_Z below #[Value.ref b] s) (F0 m 1711 ls []) := by
  obtain ⟨hx, hb, hr, hml, hown, hts, hX, hbl, hlocks, hgv⟩ := id C0
  have hown : s.vm.findClass RL = some m.cls := hown
  have hA : ∀ q : Nat, s.heap.size ≤ q → A q := by rw [hAe]; exact fun _ h => h
  have hbA : ¬ A b := by rw [hAe]; exact Nat.not_le.mpr hbl
  refine lv_aload_n hx hb dL_law_1711 rfl (lv_at hl 1 rfl) ?_
  refine lv_aload_n hx hb dL_law_1712 rfl (lv_at hl 0 rfl) ?_
  refine lv_iload_n hx hb dL_law_1713 rfl (lv_at hl 3 rfl) ?_
  refine lv_iconst (v := 1) hx hb dL_law_1714 (by decide) ?_
  refine lv_iadd hx hb dL_law_1715 ?_
  refine lv_topi (fun xz1 exz1 => ?_)
  obtain rfl : xz1 = 1 := exz1.trans (by decide)
  refine va_sld hx hb hX hbl hbA hS (by rw [hL6]; unfold vp_in; decide) dL_law_1716 ?_
  refine W.eq (g2 := F0 m 1717 ls [.int (xs 1), .ref (q 0)]) rfl ?_
  refine lv_aload_n hx hb dL_law_1717 rfl (lv_at hl 0 rfl) ?_
  refine lv_iload_n hx hb dL_law_1718 rfl (lv_at hl 3 rfl) ?_
  refine lv_iconst (v := 2) hx hb dL_law_1719 (by decide) ?_
  refine lv_iadd hx hb dL_law_1720 ?_
  refine lv_topi (fun xz2 exz2 => ?_)
  obtain rfl : xz2 = 2 := exz2.trans (by decide)
  refine va_sld hx hb hX hbl hbA hS (by rw [hL6]; unfold vp_in; decide) dL_law_1721 ?_
  refine W.eq (g2 := F0 m 1722 ls [.int (xs 2), .int (xs 1), .ref (q 0)]) rfl ?_
  have hPc := hP.sub (ws' := [((q 0), .inr (11, [.ref (q 1), .ref (q 2), .ref (q 3), .ref (q 4), .ref (q 5), .ref (q 6), .ref (q 7), .ref (q 8), .ref (q 9), .ref (q 10), .ref (q 11), .ref (q 12), .ref (q 13), .ref (q 14), .ref (q 15)])), ((q 2), .inr (10, [.ref (q 25), .ref (q 26), .ref (q 27), .ref (q 28), .ref (q 29), .ref (q 30), .ref (q 31), .int 0, .int 0, .int 0, .int 0, .int 0, .int 0, .int 0, .int 0, .int 0]))]) [0, 11] rfl
  have hKc := hK.sub (tys' := []) [] rfl
  refine vp_callSi (va_Run.run (va_runV (As := [.int (xs 1), .int (xs 2)]) (rest := []) ⟨hx, hb, hml, hown, hts⟩ (f_X11_rests l dC dI ((q 0)) ((q 1)) ((q 2)) ((q 3)) ((q 4)) ((q 5)) ((q 6)) ((q 7)) ((q 8)) ((q 9)) ((q 10)) ((q 11)) ((q 12)) ((q 13)) ((q 14)) ((q 15)) ((q 25)) ((q 26)) ((q 27)) ((q 28)) ((q 29)) ((q 30)) ((q 31)) ((xs 1)) ((xs 2))) (cwV 2 hts (gk_V tw_1028 tw_1029 tw_1030 tw_157 wki_f_X11_rests wkg_f_X11_rests) rfl rfl rfl (by decide +kernel) ⟨Nat.le_of_ble_eq_true rfl, Nat.le_of_ble_eq_true rfl⟩) ⟨fun a U g mk q => by obtain ⟨q0, qP, qK⟩ := q; exact ⟨q0, qP, va_K.moved (u := U) (U := U.calling g mk a) (Vm.Alike.refl U.vm) qK⟩, va_recv hKc hPc (ci := 11) (q0 := 0) rfl rfl, fun U hU hW => ⟨rfl, by rw [hU]; exact hPc, va_K.moved hW.alike hKc⟩⟩ rfl rfl hl.1 rfl (lv_room (Nat.le_of_ble_eq_true rfl)) dL_law_1722 ⟨Nat.le_of_ble_eq_true rfl, Nat.le_of_ble_eq_true rfl⟩)) (fun oz4 gz3 => ?_)
  obtain rfl := gz3
  refine lv_aload_n hx hb dL_law_1725 rfl (lv_at hl 2 rfl) ?_
  refine lv_aload_n hx hb dL_law_1726 rfl (lv_at hl 0 rfl) ?_
  refine lv_iload_n hx hb dL_law_1727 rfl (lv_at hl 3 rfl) ?_
  refine lv_iconst (v := 1) hx hb dL_law_1728 (by decide) ?_
  refine lv_iadd hx hb dL_law_1729 ?_
  refine lv_topi (fun xz5 exz5 => ?_)
  obtain rfl : xz5 = 1 := exz5.trans (by decide)
  refine va_sld hx hb hX hbl hbA hS (by rw [hL6]; unfold vp_in; decide) dL_law_1730 ?_
  refine W.eq (g2 := F0 m 1731 ls [.int (xs 1), .ref (r 0), .int (-2)]) rfl ?_
  refine lv_aload_n hx hb dL_law_1731 rfl (lv_at hl 0 rfl) ?_
  refine lv_iload_n hx hb dL_law_1732 rfl (lv_at hl 3 rfl) ?_
  refine lv_iconst (v := 2) hx hb dL_law_1733 (by decide) ?_
  refine lv_iadd hx hb dL_law_1734 ?_
  refine lv_topi (fun xz6 exz6 => ?_)
  obtain rfl : xz6 = 2 := exz6.trans (by decide)
  refine va_sld hx hb hX hbl hbA hS (by rw [hL6]; unfold vp_in; decide) dL_law_1735 ?_
  refine W.eq (g2 := F0 m 1736 ls [.int (xs 2), .int (xs 1), .ref (r 0), .int (-2)]) rfl ?_
  have hPc := hP.sub (ws' := [((r 0), .inr (12, [.int 0, .ref (r 1), .ref (r 2), .ref (r 3), .ref (r 4), .ref (r 5), .int 0, .int 0, .int 0, .int 0, .int 0, .long 0, .int 0, .int 0, .int 0, .int (-1), .ref (r 6), .ref (r 7), .ref (r 8), .ref (r 9), .ref (r 10), .ref (r 11), .ref (r 12), .ref (r 13), .int 0, .int 0, .int 0, .ref (r 14), .ref (r 15), .ref (r 16), .ref (r 17), .ref (r 18), .ref (r 19), .ref (r 20), .ref (r 21), .ref (r 22), .ref (r 23), .ref (r 24), .ref (r 25), .ref (r 26), .ref (r 27), .ref (r 28), .ref (r 29), .int 0, .int 0, .int 0, .ref (r 30), .int 0, .int 0, .int 0, .int 0, .int 0, .int 0, .ref (r 31), .int 0, .int 0, .int 0, .ref (r 32), .ref (r 33)])), ((r 6), .inl ((j 4), 5, .inl (fun _ => 0))), ((r 7), .inl ((j 5), 40, .inl (fun _ => 0)))]) [78, 83, 84] rfl
  have hKc := hK.sub (tys' := [((j 4), .int), ((j 5), .int)]) [60, 61] rfl
  have hDc := hD.sub (ws' := [((r 0), .inr (12, [.int 0, .ref (r 1), .ref (r 2), .ref (r 3), .ref (r 4), .ref (r 5), .int 0, .int 0, .int 0, .int 0, .int 0, .long 0, .int 0, .int 0, .int 0, .int (-1), .ref (r 6), .ref (r 7), .ref (r 8), .ref (r 9), .ref (r 10), .ref (r 11), .ref (r 12), .ref (r 13), .int 0, .int 0, .int 0, .ref (r 14), .ref (r 15), .ref (r 16), .ref (r 17), .ref (r 18), .ref (r 19), .ref (r 20), .ref (r 21), .ref (r 22), .ref (r 23), .ref (r 24), .ref (r 25), .ref (r 26), .ref (r 27), .ref (r 28), .ref (r 29), .int 0, .int 0, .int 0, .ref (r 30), .int 0, .int 0, .int 0, .int 0, .int 0, .int 0, .ref (r 31), .int 0, .int 0, .int 0, .ref (r 32), .ref (r 33)])), ((r 6), .inl ((j 4), 5, .inl (fun _ => 0))), ((r 7), .inl ((j 5), 40, .inl (fun _ => 0)))]) [78, 83, 84] (by decide) rfl
  have hFc := va_free (wc := [((r 0), .inr (12, [.int 0, .ref (r 1), .ref (r 2), .ref (r 3), .ref (r 4), .ref (r 5), .int 0, .int 0, .int 0, .int 0, .int 0, .long 0, .int 0, .int 0, .int 0, .int (-1), .ref (r 6), .ref (r 7), .ref (r 8), .ref (r 9), .ref (r 10), .ref (r 11), .ref (r 12), .ref (r 13), .int 0, .int 0, .int 0, .ref (r 14), .ref (r 15), .ref (r 16), .ref (r 17), .ref (r 18), .ref (r 19), .ref (r 20), .ref (r 21), .ref (r 22), .ref (r 23), .ref (r 24), .ref (r 25), .ref (r 26), .ref (r 27), .ref (r 28), .ref (r 29), .int 0, .int 0, .int 0, .ref (r 30), .int 0, .int 0, .int 0, .int 0, .int 0, .int 0, .ref (r 31), .int 0, .int 0, .int 0, .ref (r 32), .ref (r 33)])), ((r 6), .inl ((j 4), 5, .inl (fun _ => 0))), ((r 7), .inl ((j 5), 40, .inl (fun _ => 0)))]) hD hS hA [78, 83, 84] rfl
  refine va_calli (va_runV (As := [.int (xs 1), .int (xs 2)]) (rest := [.int (-2)]) ⟨hx, hb, hml, hown, hts⟩ (f_X12_rests l dC dI H.size ((r 0)) ((r 1)) ((r 2)) ((r 3)) ((r 4)) ((r 5)) ((r 6)) ((r 7)) ((r 8)) ((r 9)) ((r 10)) ((r 11)) ((r 12)) ((r 13)) ((r 14)) ((r 15)) ((r 16)) ((r 17)) ((r 18)) ((r 19)) ((r 20)) ((r 21)) ((r 22)) ((r 23)) ((r 24)) ((r 25)) ((r 26)) ((r 27)) ((r 28)) ((r 29)) ((r 30)) ((r 31)) ((r 32)) ((r 33)) ((j 4)) ((j 5)) ((xs 1)) ((xs 2))) (cwV 2 hts (gk_V tw_1031 tw_1032 tw_1033 tw_505 wki_f_X12_rests wkg_f_X12_rests) rfl rfl rfl (by decide +kernel) ⟨Nat.le_of_ble_eq_true rfl, Nat.le_of_ble_eq_true rfl⟩) ⟨fun a U g mk q => by obtain ⟨q0, q1, qP, qK, qD⟩ := q; exact ⟨q0, q1, qP, va_K.moved (u := U) (U := U.calling g mk a) (Vm.Alike.refl U.vm) qK, qD⟩, va_recv hKc hPc (ci := 12) (q0 := 0) rfl rfl, fun U hU hW => ⟨rfl, by rw [hU], by rw [hU]; exact hPc, va_K.moved hW.alike hKc, hDc.weaken (fun _ _ _ _ => trivial)⟩⟩ rfl rfl hl.1 rfl (lv_room (Nat.le_of_ble_eq_true rfl)) dL_law_1736 ⟨Nat.le_of_ble_eq_true rfl, Nat.le_of_ble_eq_true rfl⟩) hS (fun q _ h => hFc q h) hFc (fun oz8 u t H1 locs ht hvm gz7 hB hz1 hk1 hS => ?_)
  generalize H1 = H at hS ⊢
  refine W.widen (k := 305) (n := 4995) (Nat.le_of_ble_eq_true rfl) (Nat.le_of_ble_eq_true rfl) ?_
  obtain rfl := gz7
  refine lv_icmp_eq (tgt := 2293) hx hb dL_law_1739 (by decide) (fun cz9 => ?_) (fun cz9 => ?_)
  · skip
    exact law_end (dC := dC) (dI := dI) (Nat.le_of_eq hL6) C0 A hAe (q 0) (r 0) H locs hS ls hl
  · skip
    exact absurd cz9 (by decide)
set_option maxHeartbeats 4000000 in
set_option maxRecDepth 100000 in
theorem law_case_56 {p : Program} {l : Launch} {e : Env} {s : State} {m : MethodId} {below : List Frame} {meth : Method} {c : Code} {dC : Nat → ClassId} {dI : Nat → Nat → Nat} {b L : Nat} {xs : Nat → Int32} (hL6 : L = 6) (C0 : lw_At p s m meth c b L xs) (A : Nat → Prop) (hAe : A = fun q => s.heap.size ≤ q) (q r : Nat → Nat) (k j : Nat → ClassId) (H : Heap) (locs : List Loc) (hK : va_K (dC, dI) vwCl (tX k ++ tM j) s) (hP : va_P (dC, dI) vwCl (wX q k ++ wM r j) H) (hD : va_D A (wX q k ++ wM r j)) (hS : va_S A s.heap H locs) (ls : Array Slot) (hl : lv_has ls 4 [(0, .ref b), (1, .ref (q 0)), (2, .ref (r 0)), (3, .int 0)]) : W p l e room_1 s m #[Value.ref b] below meth c H locs 305 4995 (lw_Z below #[Value.ref b] s) (F0 m 1744 ls []) := by
  obtain ⟨hx, hb, hr, hml, hown, hts, hX, hbl, hlocks, hgv⟩ := id C0
  have hown : s.vm.findClass RL = some m.cls := hown
  have hA : ∀ q : Nat, s.heap.size ≤ q → A q := by rw [hAe]; exact fun _ h => h
  have hbA : ¬ A b := by rw [hAe]; exact Nat.not_le.mpr hbl
  refine lv_aload_n hx hb dL_law_1744 rfl (lv_at hl 1 rfl) ?_
  refine lv_aload_n hx hb dL_law_1745 rfl (lv_at hl 0 rfl) ?_
  refine lv_iload_n hx hb dL_law_1746 rfl (lv_at hl 3 rfl) ?_
  refine lv_iconst (v := 1) hx hb dL_law_1747 (by decide) ?_
  refine lv_iadd hx hb dL_law_1748 ?_
  refine lv_topi (fun xz1 exz1 => ?_)
  obtain rfl : xz1 = 1 := exz1.trans (by decide)
  refine va_sld hx hb hX hbl hbA hS (by rw [hL6]; unfold vp_in; decide) dL_law_1749 ?_
  refine W.eq (g2 := F0 m 1750 ls [.int (xs 1), .ref (q 0)]) rfl ?_
  refine lv_aload_n hx hb dL_law_1750 rfl (lv_at hl 0 rfl) ?_
  refine lv_iload_n hx hb dL_law_1751 rfl (lv_at hl 3 rfl) ?_
  refine lv_iconst (v := 2) hx hb dL_law_1752 (by decide) ?_
  refine lv_iadd hx hb dL_law_1753 ?_
  refine lv_topi (fun xz2 exz2 => ?_)
  obtain rfl : xz2 = 2 := exz2.trans (by decide)
  refine va_sld hx hb hX hbl hbA hS (by rw [hL6]; unfold vp_in; decide) dL_law_1754 ?_
  refine W.eq (g2 := F0 m 1755 ls [.int (xs 2), .int (xs 1), .ref (q 0)]) rfl ?_
  have hPc := hP.sub (ws' := [((q 0), .inr (11, [.ref (q 1), .ref (q 2), .ref (q 3), .ref (q 4), .ref (q 5), .ref (q 6), .ref (q 7), .ref (q 8), .ref (q 9), .ref (q 10), .ref (q 11), .ref (q 12), .ref (q 13), .ref (q 14), .ref (q 15)])), ((q 2), .inr (10, [.ref (q 25), .ref (q 26), .ref (q 27), .ref (q 28), .ref (q 29), .ref (q 30), .ref (q 31), .int 0, .int 0, .int 0, .int 0, .int 0, .int 0, .int 0, .int 0, .int 0]))]) [0, 11] rfl
  have hKc := hK.sub (tys' := []) [] rfl
  refine vp_callSi (va_Run.run (va_runV (As := [.int (xs 1), .int (xs 2)]) (rest := []) ⟨hx, hb, hml, hown, hts⟩ (f_X11_rest l dC dI ((q 0)) ((q 1)) ((q 2)) ((q 3)) ((q 4)) ((q 5)) ((q 6)) ((q 7)) ((q 8)) ((q 9)) ((q 10)) ((q 11)) ((q 12)) ((q 13)) ((q 14)) ((q 15)) ((q 25)) ((q 26)) ((q 27)) ((q 28)) ((q 29)) ((q 30)) ((q 31)) ((xs 1)) ((xs 2))) (cwV 2 hts (gk_V tw_1034 tw_1035 tw_1036 tw_157 wki_f_X11_rest wkg_f_X11_rest) rfl rfl rfl (by decide +kernel) ⟨Nat.le_of_ble_eq_true rfl, Nat.le_of_ble_eq_true rfl⟩) ⟨fun a U g mk q => by obtain ⟨q0, qP, qK⟩ := q; exact ⟨q0, qP, va_K.moved (u := U) (U := U.calling g mk a) (Vm.Alike.refl U.vm) qK⟩, va_recv hKc hPc (ci := 11) (q0 := 0) rfl rfl, fun U hU hW => ⟨rfl, by rw [hU]; exact hPc, va_K.moved hW.alike hKc⟩⟩ rfl rfl hl.1 rfl (lv_room (Nat.le_of_ble_eq_true rfl)) dL_law_1755 ⟨Nat.le_of_ble_eq_true rfl, Nat.le_of_ble_eq_true rfl⟩)) (fun oz4 gz3 => ?_)
  obtain rfl := gz3
  refine lv_aload_n hx hb dL_law_1758 rfl (lv_at hl 2 rfl) ?_
  refine lv_aload_n hx hb dL_law_1759 rfl (lv_at hl 0 rfl) ?_
  refine lv_iload_n hx hb dL_law_1760 rfl (lv_at hl 3 rfl) ?_
  refine lv_iconst (v := 1) hx hb dL_law_1761 (by decide) ?_
  refine lv_iadd hx hb dL_law_1762 ?_
  refine lv_topi (fun xz5 exz5 => ?_)
  obtain rfl : xz5 = 1 := exz5.trans (by decide)
  refine va_sld hx hb hX hbl hbA hS (by rw [hL6]; unfold vp_in; decide) dL_law_1763 ?_
  refine W.eq (g2 := F0 m 1764 ls [.int (xs 1), .ref (r 0), .int (-2)]) rfl ?_
  refine lv_aload_n hx hb dL_law_1764 rfl (lv_at hl 0 rfl) ?_
  refine lv_iload_n hx hb dL_law_1765 rfl (lv_at hl 3 rfl) ?_
  refine lv_iconst (v := 2) hx hb dL_law_1766 (by decide) ?_
  refine lv_iadd hx hb dL_law_1767 ?_
  refine lv_topi (fun xz6 exz6 => ?_)
  obtain rfl : xz6 = 2 := exz6.trans (by decide)
  refine va_sld hx hb hX hbl hbA hS (by rw [hL6]; unfold vp_in; decide) dL_law_1768 ?_
  refine W.eq (g2 := F0 m 1769 ls [.int (xs 2), .int (xs 1), .ref (r 0), .int (-2)]) rfl ?_
  have hPc := hP.sub (ws' := [((r 0), .inr (12, [.int 0, .ref (r 1), .ref (r 2), .ref (r 3), .ref (r 4), .ref (r 5), .int 0, .int 0, .int 0, .int 0, .int 0, .long 0, .int 0, .int 0, .int 0, .int (-1), .ref (r 6), .ref (r 7), .ref (r 8), .ref (r 9), .ref (r 10), .ref (r 11), .ref (r 12), .ref (r 13), .int 0, .int 0, .int 0, .ref (r 14), .ref (r 15), .ref (r 16), .ref (r 17), .ref (r 18), .ref (r 19), .ref (r 20), .ref (r 21), .ref (r 22), .ref (r 23), .ref (r 24), .ref (r 25), .ref (r 26), .ref (r 27), .ref (r 28), .ref (r 29), .int 0, .int 0, .int 0, .ref (r 30), .int 0, .int 0, .int 0, .int 0, .int 0, .int 0, .ref (r 31), .int 0, .int 0, .int 0, .ref (r 32), .ref (r 33)])), ((r 6), .inl ((j 4), 5, .inl (fun _ => 0))), ((r 7), .inl ((j 5), 40, .inl (fun _ => 0)))]) [78, 83, 84] rfl
  have hKc := hK.sub (tys' := [((j 4), .int), ((j 5), .int)]) [60, 61] rfl
  have hDc := hD.sub (ws' := [((r 0), .inr (12, [.int 0, .ref (r 1), .ref (r 2), .ref (r 3), .ref (r 4), .ref (r 5), .int 0, .int 0, .int 0, .int 0, .int 0, .long 0, .int 0, .int 0, .int 0, .int (-1), .ref (r 6), .ref (r 7), .ref (r 8), .ref (r 9), .ref (r 10), .ref (r 11), .ref (r 12), .ref (r 13), .int 0, .int 0, .int 0, .ref (r 14), .ref (r 15), .ref (r 16), .ref (r 17), .ref (r 18), .ref (r 19), .ref (r 20), .ref (r 21), .ref (r 22), .ref (r 23), .ref (r 24), .ref (r 25), .ref (r 26), .ref (r 27), .ref (r 28), .ref (r 29), .int 0, .int 0, .int 0, .ref (r 30), .int 0, .int 0, .int 0, .int 0, .int 0, .int 0, .ref (r 31), .int 0, .int 0, .int 0, .ref (r 32), .ref (r 33)])), ((r 6), .inl ((j 4), 5, .inl (fun _ => 0))), ((r 7), .inl ((j 5), 40, .inl (fun _ => 0)))]) [78, 83, 84] (by decide) rfl
  have hFc := va_free (wc := [((r 0), .inr (12, [.int 0, .ref (r 1), .ref (r 2), .ref (r 3), .ref (r 4), .ref (r 5), .int 0, .int 0, .int 0, .int 0, .int 0, .long 0, .int 0, .int 0, .int 0, .int (-1), .ref (r 6), .ref (r 7), .ref (r 8), .ref (r 9), .ref (r 10), .ref (r 11), .ref (r 12), .ref (r 13), .int 0, .int 0, .int 0, .ref (r 14), .ref (r 15), .ref (r 16), .ref (r 17), .ref (r 18), .ref (r 19), .ref (r 20), .ref (r 21), .ref (r 22), .ref (r 23), .ref (r 24), .ref (r 25), .ref (r 26), .ref (r 27), .ref (r 28), .ref (r 29), .int 0, .int 0, .int 0, .ref (r 30), .int 0, .int 0, .int 0, .int 0, .int 0, .int 0, .ref (r 31), .int 0, .int 0, .int 0, .ref (r 32), .ref (r 33)])), ((r 6), .inl ((j 4), 5, .inl (fun _ => 0))), ((r 7), .inl ((j 5), 40, .inl (fun _ => 0)))]) hD hS hA [78, 83, 84] rfl
  refine va_calli (va_runV (As := [.int (xs 1), .int (xs 2)]) (rest := [.int (-2)]) ⟨hx, hb, hml, hown, hts⟩ (f_X12_rest l dC dI H.size ((r 0)) ((r 1)) ((r 2)) ((r 3)) ((r 4)) ((r 5)) ((r 6)) ((r 7)) ((r 8)) ((r 9)) ((r 10)) ((r 11)) ((r 12)) ((r 13)) ((r 14)) ((r 15)) ((r 16)) ((r 17)) ((r 18)) ((r 19)) ((r 20)) ((r 21)) ((r 22)) ((r 23)) ((r 24)) ((r 25)) ((r 26)) ((r 27)) ((r 28)) ((r 29)) ((r 30)) ((r 31)) ((r 32)) ((r 33)) ((j 4)) ((j 5)) ((xs 1)) ((xs 2))) (cwV 2 hts (gk_V tw_1037 tw_1038 tw_1039 tw_505 wki_f_X12_rest wkg_f_X12_rest) rfl rfl rfl (by decide +kernel) ⟨Nat.le_of_ble_eq_true rfl, Nat.le_of_ble_eq_true rfl⟩) ⟨fun a U g mk q => by obtain ⟨q0, q1, qP, qK, qD⟩ := q; exact ⟨q0, q1, qP, va_K.moved (u := U) (U := U.calling g mk a) (Vm.Alike.refl U.vm) qK, qD⟩, va_recv hKc hPc (ci := 12) (q0 := 0) rfl rfl, fun U hU hW => ⟨rfl, by rw [hU], by rw [hU]; exact hPc, va_K.moved hW.alike hKc, hDc.weaken (fun _ _ _ _ => trivial)⟩⟩ rfl rfl hl.1 rfl (lv_room (Nat.le_of_ble_eq_true rfl)) dL_law_1769 ⟨Nat.le_of_ble_eq_true rfl, Nat.le_of_ble_eq_true rfl⟩) hS (fun q _ h => hFc q h) hFc (fun oz8 u t H1 locs ht hvm gz7 hB hz1 hk1 hS => ?_)
  generalize H1 = H at hS ⊢
  refine W.widen (k := 305) (n := 4995) (Nat.le_of_ble_eq_true rfl) (Nat.le_of_ble_eq_true rfl) ?_
  obtain rfl := gz7
  refine lv_icmp_eq (tgt := 2293) hx hb dL_law_1772 (by decide) (fun cz9 => ?_) (fun cz9 => ?_)
  · skip
    exact law_end (dC := dC) (dI := dI) (Nat.le_of_eq hL6) C0 A hAe (q 0) (r 0) H locs hS ls hl
  · skip
    exact absurd cz9 (by decide)
set_option maxHeartbeats 4000000 in
set_option maxRecDepth 100000 in
theorem law_case_57 {p : Program} {l : Launch} {e : Env} {s : State} {m : MethodId} {below : List Frame} {meth : Method} {c : Code} {dC : Nat → ClassId} {dI : Nat → Nat → Nat} {b L : Nat} {xs : Nat → Int32} (hL6 : L = 6) (C0 : lw_At p s m meth c b L xs) (A : Nat → Prop) (hAe : A = fun q => s.heap.size ≤ q) (q r : Nat → Nat) (k j : Nat → ClassId) (H : Heap) (locs : List Loc) (hK : va_K (dC, dI) vwCl (tX k ++ tM j) s) (hP : va_P (dC, dI) vwCl (wX q k ++ wM r j) H) (hD : va_D A (wX q k ++ wM r j)) (hS : va_S A s.heap H locs) (ls : Array Slot) (hl : lv_has ls 4 [(0, .ref b), (1, .ref (q 0)), (2, .ref (r 0)), (3, .int 0)]) : W p l e room_1 s m #[Value.ref b] below meth c H locs 305 4995 (lw_Z below #[Value.ref b] s) (F0 m 1777 ls []) := by
  obtain ⟨hx, hb, hr, hml, hown, hts, hX, hbl, hlocks, hgv⟩ := id C0
  have hown : s.vm.findClass RL = some m.cls := hown
  have hA : ∀ q : Nat, s.heap.size ≤ q → A q := by rw [hAe]; exact fun _ h => h
  have hbA : ¬ A b := by rw [hAe]; exact Nat.not_le.mpr hbl
  refine lv_aload_n hx hb dL_law_1777 rfl (lv_at hl 1 rfl) ?_
  refine lv_aload_n hx hb dL_law_1778 rfl (lv_at hl 0 rfl) ?_
  refine lv_iload_n hx hb dL_law_1779 rfl (lv_at hl 3 rfl) ?_
  refine lv_iconst (v := 1) hx hb dL_law_1780 (by decide) ?_
  refine lv_iadd hx hb dL_law_1781 ?_
  refine lv_topi (fun xz1 exz1 => ?_)
  obtain rfl : xz1 = 1 := exz1.trans (by decide)
  refine va_sld hx hb hX hbl hbA hS (by rw [hL6]; unfold vp_in; decide) dL_law_1782 ?_
  refine W.eq (g2 := F0 m 1783 ls [.int (xs 1), .ref (q 0)]) rfl ?_
  refine lv_aload_n hx hb dL_law_1783 rfl (lv_at hl 0 rfl) ?_
  refine lv_iload_n hx hb dL_law_1784 rfl (lv_at hl 3 rfl) ?_
  refine lv_iconst (v := 2) hx hb dL_law_1785 (by decide) ?_
  refine lv_iadd hx hb dL_law_1786 ?_
  refine lv_topi (fun xz2 exz2 => ?_)
  obtain rfl : xz2 = 2 := exz2.trans (by decide)
  refine va_sld hx hb hX hbl hbA hS (by rw [hL6]; unfold vp_in; decide) dL_law_1787 ?_
  refine W.eq (g2 := F0 m 1788 ls [.int (xs 2), .int (xs 1), .ref (q 0)]) rfl ?_
  have hPc := hP.sub (ws' := [((q 0), .inr (11, [.ref (q 1), .ref (q 2), .ref (q 3), .ref (q 4), .ref (q 5), .ref (q 6), .ref (q 7), .ref (q 8), .ref (q 9), .ref (q 10), .ref (q 11), .ref (q 12), .ref (q 13), .ref (q 14), .ref (q 15)])), ((q 2), .inr (10, [.ref (q 25), .ref (q 26), .ref (q 27), .ref (q 28), .ref (q 29), .ref (q 30), .ref (q 31), .int 0, .int 0, .int 0, .int 0, .int 0, .int 0, .int 0, .int 0, .int 0]))]) [0, 11] rfl
  have hKc := hK.sub (tys' := []) [] rfl
  refine vp_callSi (va_Run.run (va_runV (As := [.int (xs 1), .int (xs 2)]) (rest := []) ⟨hx, hb, hml, hown, hts⟩ (f_X11_chance l dC dI ((q 0)) ((q 1)) ((q 2)) ((q 3)) ((q 4)) ((q 5)) ((q 6)) ((q 7)) ((q 8)) ((q 9)) ((q 10)) ((q 11)) ((q 12)) ((q 13)) ((q 14)) ((q 15)) ((q 25)) ((q 26)) ((q 27)) ((q 28)) ((q 29)) ((q 30)) ((q 31)) ((xs 1)) ((xs 2))) (cwV 2 hts (gk_V tw_1040 tw_1041 tw_1042 tw_157 wki_f_X11_chance wkg_f_X11_chance) rfl rfl rfl (by decide +kernel) ⟨Nat.le_of_ble_eq_true rfl, Nat.le_of_ble_eq_true rfl⟩) ⟨fun a U g mk q => by obtain ⟨q0, qP, qK⟩ := q; exact ⟨q0, qP, va_K.moved (u := U) (U := U.calling g mk a) (Vm.Alike.refl U.vm) qK⟩, va_recv hKc hPc (ci := 11) (q0 := 0) rfl rfl, fun U hU hW => ⟨rfl, by rw [hU]; exact hPc, va_K.moved hW.alike hKc⟩⟩ rfl rfl hl.1 rfl (lv_room (Nat.le_of_ble_eq_true rfl)) dL_law_1788 ⟨Nat.le_of_ble_eq_true rfl, Nat.le_of_ble_eq_true rfl⟩)) (fun oz4 gz3 => ?_)
  obtain rfl := gz3
  refine lv_aload_n hx hb dL_law_1791 rfl (lv_at hl 2 rfl) ?_
  refine lv_aload_n hx hb dL_law_1792 rfl (lv_at hl 0 rfl) ?_
  refine lv_iload_n hx hb dL_law_1793 rfl (lv_at hl 3 rfl) ?_
  refine lv_iconst (v := 1) hx hb dL_law_1794 (by decide) ?_
  refine lv_iadd hx hb dL_law_1795 ?_
  refine lv_topi (fun xz5 exz5 => ?_)
  obtain rfl : xz5 = 1 := exz5.trans (by decide)
  refine va_sld hx hb hX hbl hbA hS (by rw [hL6]; unfold vp_in; decide) dL_law_1796 ?_
  refine W.eq (g2 := F0 m 1797 ls [.int (xs 1), .ref (r 0), .int (-2)]) rfl ?_
  refine lv_aload_n hx hb dL_law_1797 rfl (lv_at hl 0 rfl) ?_
  refine lv_iload_n hx hb dL_law_1798 rfl (lv_at hl 3 rfl) ?_
  refine lv_iconst (v := 2) hx hb dL_law_1799 (by decide) ?_
  refine lv_iadd hx hb dL_law_1800 ?_
  refine lv_topi (fun xz6 exz6 => ?_)
  obtain rfl : xz6 = 2 := exz6.trans (by decide)
  refine va_sld hx hb hX hbl hbA hS (by rw [hL6]; unfold vp_in; decide) dL_law_1801 ?_
  refine W.eq (g2 := F0 m 1802 ls [.int (xs 2), .int (xs 1), .ref (r 0), .int (-2)]) rfl ?_
  have hPc := hP.sub (ws' := [((r 0), .inr (12, [.int 0, .ref (r 1), .ref (r 2), .ref (r 3), .ref (r 4), .ref (r 5), .int 0, .int 0, .int 0, .int 0, .int 0, .long 0, .int 0, .int 0, .int 0, .int (-1), .ref (r 6), .ref (r 7), .ref (r 8), .ref (r 9), .ref (r 10), .ref (r 11), .ref (r 12), .ref (r 13), .int 0, .int 0, .int 0, .ref (r 14), .ref (r 15), .ref (r 16), .ref (r 17), .ref (r 18), .ref (r 19), .ref (r 20), .ref (r 21), .ref (r 22), .ref (r 23), .ref (r 24), .ref (r 25), .ref (r 26), .ref (r 27), .ref (r 28), .ref (r 29), .int 0, .int 0, .int 0, .ref (r 30), .int 0, .int 0, .int 0, .int 0, .int 0, .int 0, .ref (r 31), .int 0, .int 0, .int 0, .ref (r 32), .ref (r 33)])), ((r 6), .inl ((j 4), 5, .inl (fun _ => 0))), ((r 7), .inl ((j 5), 40, .inl (fun _ => 0)))]) [78, 83, 84] rfl
  have hKc := hK.sub (tys' := [((j 4), .int), ((j 5), .int)]) [60, 61] rfl
  have hDc := hD.sub (ws' := [((r 0), .inr (12, [.int 0, .ref (r 1), .ref (r 2), .ref (r 3), .ref (r 4), .ref (r 5), .int 0, .int 0, .int 0, .int 0, .int 0, .long 0, .int 0, .int 0, .int 0, .int (-1), .ref (r 6), .ref (r 7), .ref (r 8), .ref (r 9), .ref (r 10), .ref (r 11), .ref (r 12), .ref (r 13), .int 0, .int 0, .int 0, .ref (r 14), .ref (r 15), .ref (r 16), .ref (r 17), .ref (r 18), .ref (r 19), .ref (r 20), .ref (r 21), .ref (r 22), .ref (r 23), .ref (r 24), .ref (r 25), .ref (r 26), .ref (r 27), .ref (r 28), .ref (r 29), .int 0, .int 0, .int 0, .ref (r 30), .int 0, .int 0, .int 0, .int 0, .int 0, .int 0, .ref (r 31), .int 0, .int 0, .int 0, .ref (r 32), .ref (r 33)])), ((r 6), .inl ((j 4), 5, .inl (fun _ => 0))), ((r 7), .inl ((j 5), 40, .inl (fun _ => 0)))]) [78, 83, 84] (by decide) rfl
  have hFc := va_free (wc := [((r 0), .inr (12, [.int 0, .ref (r 1), .ref (r 2), .ref (r 3), .ref (r 4), .ref (r 5), .int 0, .int 0, .int 0, .int 0, .int 0, .long 0, .int 0, .int 0, .int 0, .int (-1), .ref (r 6), .ref (r 7), .ref (r 8), .ref (r 9), .ref (r 10), .ref (r 11), .ref (r 12), .ref (r 13), .int 0, .int 0, .int 0, .ref (r 14), .ref (r 15), .ref (r 16), .ref (r 17), .ref (r 18), .ref (r 19), .ref (r 20), .ref (r 21), .ref (r 22), .ref (r 23), .ref (r 24), .ref (r 25), .ref (r 26), .ref (r 27), .ref (r 28), .ref (r 29), .int 0, .int 0, .int 0, .ref (r 30), .int 0, .int 0, .int 0, .int 0, .int 0, .int 0, .ref (r 31), .int 0, .int 0, .int 0, .ref (r 32), .ref (r 33)])), ((r 6), .inl ((j 4), 5, .inl (fun _ => 0))), ((r 7), .inl ((j 5), 40, .inl (fun _ => 0)))]) hD hS hA [78, 83, 84] rfl
  refine va_calli (va_runV (As := [.int (xs 1), .int (xs 2)]) (rest := [.int (-2)]) ⟨hx, hb, hml, hown, hts⟩ (f_X12_chance l dC dI H.size ((r 0)) ((r 1)) ((r 2)) ((r 3)) ((r 4)) ((r 5)) ((r 6)) ((r 7)) ((r 8)) ((r 9)) ((r 10)) ((r 11)) ((r 12)) ((r 13)) ((r 14)) ((r 15)) ((r 16)) ((r 17)) ((r 18)) ((r 19)) ((r 20)) ((r 21)) ((r 22)) ((r 23)) ((r 24)) ((r 25)) ((r 26)) ((r 27)) ((r 28)) ((r 29)) ((r 30)) ((r 31)) ((r 32)) ((r 33)) ((j 4)) ((j 5)) ((xs 1)) ((xs 2))) (cwV 2 hts (gk_V tw_1043 tw_1044 tw_1045 tw_505 wki_f_X12_chance wkg_f_X12_chance) rfl rfl rfl (by decide +kernel) ⟨Nat.le_of_ble_eq_true rfl, Nat.le_of_ble_eq_true rfl⟩) ⟨fun a U g mk q => by obtain ⟨q0, q1, qP, qK, qD⟩ := q; exact ⟨q0, q1, qP, va_K.moved (u := U) (U := U.calling g mk a) (Vm.Alike.refl U.vm) qK, qD⟩, va_recv hKc hPc (ci := 12) (q0 := 0) rfl rfl, fun U hU hW => ⟨rfl, by rw [hU], by rw [hU]; exact hPc, va_K.moved hW.alike hKc, hDc.weaken (fun _ _ _ _ => trivial)⟩⟩ rfl rfl hl.1 rfl (lv_room (Nat.le_of_ble_eq_true rfl)) dL_law_1802 ⟨Nat.le_of_ble_eq_true rfl, Nat.le_of_ble_eq_true rfl⟩) hS (fun q _ h => hFc q h) hFc (fun oz8 u t H1 locs ht hvm gz7 hB hz1 hk1 hS => ?_)
  generalize H1 = H at hS ⊢
  refine W.widen (k := 305) (n := 4995) (Nat.le_of_ble_eq_true rfl) (Nat.le_of_ble_eq_true rfl) ?_
  obtain rfl := gz7
  refine lv_icmp_eq (tgt := 2293) hx hb dL_law_1805 (by decide) (fun cz9 => ?_) (fun cz9 => ?_)
  · skip
    exact law_end (dC := dC) (dI := dI) (Nat.le_of_eq hL6) C0 A hAe (q 0) (r 0) H locs hS ls hl
  · skip
    exact absurd cz9 (by decide)
set_option maxHeartbeats 4000000 in
set_option maxRecDepth 100000 in
theorem law_case_58 {p : Program} {l : Launch} {e : Env} {s : State} {m : MethodId} {below : List Frame} {meth : Method} {c : Code} {dC : Nat → ClassId} {dI : Nat → Nat → Nat} {b L : Nat} {xs : Nat → Int32} (hL6 : L = 6) (C0 : lw_At p s m meth c b L xs) (A : Nat → Prop) (hAe : A = fun q => s.heap.size ≤ q) (q r : Nat → Nat) (k j : Nat → ClassId) (H : Heap) (locs : List Loc) (hK : va_K (dC, dI) vwCl (tX k ++ tM j) s) (hP : va_P (dC, dI) vwCl (wX q k ++ wM r j) H) (hD : va_D A (wX q k ++ wM r j)) (hS : va_S A s.heap H locs) (ls : Array Slot) (hl : lv_has ls 4 [(0, .ref b), (1, .ref (q 0)), (2, .ref (r 0)), (3, .int 0)]) : W p l e room_1 s m #[Value.ref b] below meth c H locs 305 4995 (lw_Z below #[Value.ref b] s) (F0 m 1810 ls []) := by
  obtain ⟨hx, hb, hr, hml, hown, hts, hX, hbl, hlocks, hgv⟩ := id C0
  have hown : s.vm.findClass RL = some m.cls := hown
  have hA : ∀ q : Nat, s.heap.size ≤ q → A q := by rw [hAe]; exact fun _ h => h
  have hbA : ¬ A b := by rw [hAe]; exact Nat.not_le.mpr hbl
  refine lv_aload_n hx hb dL_law_1810 rfl (lv_at hl 1 rfl) ?_
  refine lv_aload_n hx hb dL_law_1811 rfl (lv_at hl 0 rfl) ?_
  refine lv_iload_n hx hb dL_law_1812 rfl (lv_at hl 3 rfl) ?_
  refine lv_iconst (v := 1) hx hb dL_law_1813 (by decide) ?_
  refine lv_iadd hx hb dL_law_1814 ?_
  refine lv_topi (fun xz1 exz1 => ?_)
  obtain rfl : xz1 = 1 := exz1.trans (by decide)
  refine va_sld hx hb hX hbl hbA hS (by rw [hL6]; unfold vp_in; decide) dL_law_1815 ?_
  refine W.eq (g2 := F0 m 1816 ls [.int (xs 1), .ref (q 0)]) rfl ?_
  refine lv_aload_n hx hb dL_law_1816 rfl (lv_at hl 0 rfl) ?_
  refine lv_iload_n hx hb dL_law_1817 rfl (lv_at hl 3 rfl) ?_
  refine lv_iconst (v := 2) hx hb dL_law_1818 (by decide) ?_
  refine lv_iadd hx hb dL_law_1819 ?_
  refine lv_topi (fun xz2 exz2 => ?_)
  obtain rfl : xz2 = 2 := exz2.trans (by decide)
  refine va_sld hx hb hX hbl hbA hS (by rw [hL6]; unfold vp_in; decide) dL_law_1820 ?_
  refine W.eq (g2 := F0 m 1821 ls [.int (xs 2), .int (xs 1), .ref (q 0)]) rfl ?_
  have hPc := hP.sub (ws' := [((q 0), .inr (11, [.ref (q 1), .ref (q 2), .ref (q 3), .ref (q 4), .ref (q 5), .ref (q 6), .ref (q 7), .ref (q 8), .ref (q 9), .ref (q 10), .ref (q 11), .ref (q 12), .ref (q 13), .ref (q 14), .ref (q 15)])), ((q 2), .inr (10, [.ref (q 25), .ref (q 26), .ref (q 27), .ref (q 28), .ref (q 29), .ref (q 30), .ref (q 31), .int 0, .int 0, .int 0, .int 0, .int 0, .int 0, .int 0, .int 0, .int 0]))]) [0, 11] rfl
  have hKc := hK.sub (tys' := []) [] rfl
  refine vp_callSl (va_Run.run (va_runV (As := [.int (xs 1), .int (xs 2)]) (rest := []) ⟨hx, hb, hml, hown, hts⟩ (f_X11_mean l dC dI ((q 0)) ((q 1)) ((q 2)) ((q 3)) ((q 4)) ((q 5)) ((q 6)) ((q 7)) ((q 8)) ((q 9)) ((q 10)) ((q 11)) ((q 12)) ((q 13)) ((q 14)) ((q 15)) ((q 25)) ((q 26)) ((q 27)) ((q 28)) ((q 29)) ((q 30)) ((q 31)) ((xs 1)) ((xs 2))) (cwV 2 hts (gk_V tw_1046 tw_1047 tw_1048 tw_157 wki_f_X11_mean wkg_f_X11_mean) rfl rfl rfl (by decide +kernel) ⟨Nat.le_of_ble_eq_true rfl, Nat.le_of_ble_eq_true rfl⟩) ⟨fun a U g mk q => by obtain ⟨q0, qP, qK⟩ := q; exact ⟨q0, qP, va_K.moved (u := U) (U := U.calling g mk a) (Vm.Alike.refl U.vm) qK⟩, va_recv hKc hPc (ci := 11) (q0 := 0) rfl rfl, fun U hU hW => ⟨rfl, by rw [hU]; exact hPc, va_K.moved hW.alike hKc⟩⟩ rfl rfl hl.1 rfl (lv_room (Nat.le_of_ble_eq_true rfl)) dL_law_1821 ⟨Nat.le_of_ble_eq_true rfl, Nat.le_of_ble_eq_true rfl⟩)) (fun oz4 gz3 => ?_)
  obtain rfl := gz3
  refine lv_aload_n hx hb dL_law_1824 rfl (lv_at hl 2 rfl) ?_
  refine lv_aload_n hx hb dL_law_1825 rfl (lv_at hl 0 rfl) ?_
  refine lv_iload_n hx hb dL_law_1826 rfl (lv_at hl 3 rfl) ?_
  refine lv_iconst (v := 1) hx hb dL_law_1827 (by decide) ?_
  refine lv_iadd hx hb dL_law_1828 ?_
  refine lv_topi (fun xz5 exz5 => ?_)
  obtain rfl : xz5 = 1 := exz5.trans (by decide)
  refine va_sld hx hb hX hbl hbA hS (by rw [hL6]; unfold vp_in; decide) dL_law_1829 ?_
  refine W.eq (g2 := F0 m 1830 ls [.int (xs 1), .ref (r 0), .long (-2)]) rfl ?_
  refine lv_aload_n hx hb dL_law_1830 rfl (lv_at hl 0 rfl) ?_
  refine lv_iload_n hx hb dL_law_1831 rfl (lv_at hl 3 rfl) ?_
  refine lv_iconst (v := 2) hx hb dL_law_1832 (by decide) ?_
  refine lv_iadd hx hb dL_law_1833 ?_
  refine lv_topi (fun xz6 exz6 => ?_)
  obtain rfl : xz6 = 2 := exz6.trans (by decide)
  refine va_sld hx hb hX hbl hbA hS (by rw [hL6]; unfold vp_in; decide) dL_law_1834 ?_
  refine W.eq (g2 := F0 m 1835 ls [.int (xs 2), .int (xs 1), .ref (r 0), .long (-2)]) rfl ?_
  have hPc := hP.sub (ws' := [((r 0), .inr (12, [.int 0, .ref (r 1), .ref (r 2), .ref (r 3), .ref (r 4), .ref (r 5), .int 0, .int 0, .int 0, .int 0, .int 0, .long 0, .int 0, .int 0, .int 0, .int (-1), .ref (r 6), .ref (r 7), .ref (r 8), .ref (r 9), .ref (r 10), .ref (r 11), .ref (r 12), .ref (r 13), .int 0, .int 0, .int 0, .ref (r 14), .ref (r 15), .ref (r 16), .ref (r 17), .ref (r 18), .ref (r 19), .ref (r 20), .ref (r 21), .ref (r 22), .ref (r 23), .ref (r 24), .ref (r 25), .ref (r 26), .ref (r 27), .ref (r 28), .ref (r 29), .int 0, .int 0, .int 0, .ref (r 30), .int 0, .int 0, .int 0, .int 0, .int 0, .int 0, .ref (r 31), .int 0, .int 0, .int 0, .ref (r 32), .ref (r 33)])), ((r 6), .inl ((j 4), 5, .inl (fun _ => 0))), ((r 7), .inl ((j 5), 40, .inl (fun _ => 0)))]) [78, 83, 84] rfl
  have hKc := hK.sub (tys' := [((j 4), .int), ((j 5), .int)]) [60, 61] rfl
  have hDc := hD.sub (ws' := [((r 0), .inr (12, [.int 0, .ref (r 1), .ref (r 2), .ref (r 3), .ref (r 4), .ref (r 5), .int 0, .int 0, .int 0, .int 0, .int 0, .long 0, .int 0, .int 0, .int 0, .int (-1), .ref (r 6), .ref (r 7), .ref (r 8), .ref (r 9), .ref (r 10), .ref (r 11), .ref (r 12), .ref (r 13), .int 0, .int 0, .int 0, .ref (r 14), .ref (r 15), .ref (r 16), .ref (r 17), .ref (r 18), .ref (r 19), .ref (r 20), .ref (r 21), .ref (r 22), .ref (r 23), .ref (r 24), .ref (r 25), .ref (r 26), .ref (r 27), .ref (r 28), .ref (r 29), .int 0, .int 0, .int 0, .ref (r 30), .int 0, .int 0, .int 0, .int 0, .int 0, .int 0, .ref (r 31), .int 0, .int 0, .int 0, .ref (r 32), .ref (r 33)])), ((r 6), .inl ((j 4), 5, .inl (fun _ => 0))), ((r 7), .inl ((j 5), 40, .inl (fun _ => 0)))]) [78, 83, 84] (by decide) rfl
  have hFc := va_free (wc := [((r 0), .inr (12, [.int 0, .ref (r 1), .ref (r 2), .ref (r 3), .ref (r 4), .ref (r 5), .int 0, .int 0, .int 0, .int 0, .int 0, .long 0, .int 0, .int 0, .int 0, .int (-1), .ref (r 6), .ref (r 7), .ref (r 8), .ref (r 9), .ref (r 10), .ref (r 11), .ref (r 12), .ref (r 13), .int 0, .int 0, .int 0, .ref (r 14), .ref (r 15), .ref (r 16), .ref (r 17), .ref (r 18), .ref (r 19), .ref (r 20), .ref (r 21), .ref (r 22), .ref (r 23), .ref (r 24), .ref (r 25), .ref (r 26), .ref (r 27), .ref (r 28), .ref (r 29), .int 0, .int 0, .int 0, .ref (r 30), .int 0, .int 0, .int 0, .int 0, .int 0, .int 0, .ref (r 31), .int 0, .int 0, .int 0, .ref (r 32), .ref (r 33)])), ((r 6), .inl ((j 4), 5, .inl (fun _ => 0))), ((r 7), .inl ((j 5), 40, .inl (fun _ => 0)))]) hD hS hA [78, 83, 84] rfl
  refine va_calll (va_runV (As := [.int (xs 1), .int (xs 2)]) (rest := [.long (-2)]) ⟨hx, hb, hml, hown, hts⟩ (f_X12_mean l dC dI H.size ((r 0)) ((r 1)) ((r 2)) ((r 3)) ((r 4)) ((r 5)) ((r 6)) ((r 7)) ((r 8)) ((r 9)) ((r 10)) ((r 11)) ((r 12)) ((r 13)) ((r 14)) ((r 15)) ((r 16)) ((r 17)) ((r 18)) ((r 19)) ((r 20)) ((r 21)) ((r 22)) ((r 23)) ((r 24)) ((r 25)) ((r 26)) ((r 27)) ((r 28)) ((r 29)) ((r 30)) ((r 31)) ((r 32)) ((r 33)) ((j 4)) ((j 5)) ((xs 1)) ((xs 2))) (cwV 2 hts (gk_V tw_1049 tw_1050 tw_1051 tw_505 wki_f_X12_mean wkg_f_X12_mean) rfl rfl rfl (by decide +kernel) ⟨Nat.le_of_ble_eq_true rfl, Nat.le_of_ble_eq_true rfl⟩) ⟨fun a U g mk q => by obtain ⟨q0, q1, qP, qK, qD⟩ := q; exact ⟨q0, q1, qP, va_K.moved (u := U) (U := U.calling g mk a) (Vm.Alike.refl U.vm) qK, qD⟩, va_recv hKc hPc (ci := 12) (q0 := 0) rfl rfl, fun U hU hW => ⟨rfl, by rw [hU], by rw [hU]; exact hPc, va_K.moved hW.alike hKc, hDc.weaken (fun _ _ _ _ => trivial)⟩⟩ rfl rfl hl.1 rfl (lv_room (Nat.le_of_ble_eq_true rfl)) dL_law_1835 ⟨Nat.le_of_ble_eq_true rfl, Nat.le_of_ble_eq_true rfl⟩) hS (fun q _ h => hFc q h) hFc (fun oz8 u t H1 locs ht hvm gz7 hB hz1 hk1 hS => ?_)
  generalize H1 = H at hS ⊢
  refine W.widen (k := 305) (n := 4995) (Nat.le_of_ble_eq_true rfl) (Nat.le_of_ble_eq_true rfl) ?_
  obtain rfl := gz7
  refine W.lcmp hx hb dL_law_1838 ?_
  refine lv_if_eq (tgt := 2293) hx hb dL_law_1839 (by decide) (fun cz9 => ?_) (fun cz9 => ?_)
  · skip
    exact law_end (dC := dC) (dI := dI) (Nat.le_of_eq hL6) C0 A hAe (q 0) (r 0) H locs hS ls hl
  · skip
    exact absurd cz9 (by decide)
set_option maxHeartbeats 4000000 in
set_option maxRecDepth 100000 in
theorem law_case_59 {p : Program} {l : Launch} {e : Env} {s : State} {m : MethodId} {below : List Frame} {meth : Method} {c : Code} {dC : Nat → ClassId} {dI : Nat → Nat → Nat} {b L : Nat} {xs : Nat → Int32} (hL6 : L = 6) (C0 : lw_At p s m meth c b L xs) (A : Nat → Prop) (hAe : A = fun q => s.heap.size ≤ q) (q r : Nat → Nat) (k j : Nat → ClassId) (H : Heap) (locs : List Loc) (hK : va_K (dC, dI) vwCl (tX k ++ tM j) s) (hP : va_P (dC, dI) vwCl (wX q k ++ wM r j) H) (hD : va_D A (wX q k ++ wM r j)) (hS : va_S A s.heap H locs) (ls : Array Slot) (hl : lv_has ls 4 [(0, .ref b), (1, .ref (q 0)), (2, .ref (r 0)), (3, .int 0)]) : W p l e room_1 s m #[Value.ref b] below meth c H locs 305 4995 (lw_Z below #[Value.ref b] s) (F0 m 1844 ls []) := by
  obtain ⟨hx, hb, hr, hml, hown, hts, hX, hbl, hlocks, hgv⟩ := id C0
  have hown : s.vm.findClass RL = some m.cls := hown
  have hA : ∀ q : Nat, s.heap.size ≤ q → A q := by rw [hAe]; exact fun _ h => h
  have hbA : ¬ A b := by rw [hAe]; exact Nat.not_le.mpr hbl
  refine lv_aload_n hx hb dL_law_1844 rfl (lv_at hl 1 rfl) ?_
  refine lv_aload_n hx hb dL_law_1845 rfl (lv_at hl 0 rfl) ?_
  refine lv_iload_n hx hb dL_law_1846 rfl (lv_at hl 3 rfl) ?_
  refine lv_iconst (v := 1) hx hb dL_law_1847 (by decide) ?_
  refine lv_iadd hx hb dL_law_1848 ?_
  refine lv_topi (fun xz1 exz1 => ?_)
  obtain rfl : xz1 = 1 := exz1.trans (by decide)
  refine va_sld hx hb hX hbl hbA hS (by rw [hL6]; unfold vp_in; decide) dL_law_1849 ?_
  refine W.eq (g2 := F0 m 1850 ls [.int (xs 1), .ref (q 0)]) rfl ?_
  refine lv_aload_n hx hb dL_law_1850 rfl (lv_at hl 0 rfl) ?_
  refine lv_iload_n hx hb dL_law_1851 rfl (lv_at hl 3 rfl) ?_
  refine lv_iconst (v := 2) hx hb dL_law_1852 (by decide) ?_
  refine lv_iadd hx hb dL_law_1853 ?_
  refine lv_topi (fun xz2 exz2 => ?_)
  obtain rfl : xz2 = 2 := exz2.trans (by decide)
  refine va_sld hx hb hX hbl hbA hS (by rw [hL6]; unfold vp_in; decide) dL_law_1854 ?_
  refine W.eq (g2 := F0 m 1855 ls [.int (xs 2), .int (xs 1), .ref (q 0)]) rfl ?_
  have hPc := hP.sub (ws' := [((q 0), .inr (11, [.ref (q 1), .ref (q 2), .ref (q 3), .ref (q 4), .ref (q 5), .ref (q 6), .ref (q 7), .ref (q 8), .ref (q 9), .ref (q 10), .ref (q 11), .ref (q 12), .ref (q 13), .ref (q 14), .ref (q 15)])), ((q 2), .inr (10, [.ref (q 25), .ref (q 26), .ref (q 27), .ref (q 28), .ref (q 29), .ref (q 30), .ref (q 31), .int 0, .int 0, .int 0, .int 0, .int 0, .int 0, .int 0, .int 0, .int 0]))]) [0, 11] rfl
  have hKc := hK.sub (tys' := []) [] rfl
  refine vp_callSi (va_Run.run (va_runV (As := [.int (xs 1), .int (xs 2)]) (rest := []) ⟨hx, hb, hml, hown, hts⟩ (f_X11_send l dC dI ((q 0)) ((q 1)) ((q 2)) ((q 3)) ((q 4)) ((q 5)) ((q 6)) ((q 7)) ((q 8)) ((q 9)) ((q 10)) ((q 11)) ((q 12)) ((q 13)) ((q 14)) ((q 15)) ((q 25)) ((q 26)) ((q 27)) ((q 28)) ((q 29)) ((q 30)) ((q 31)) ((xs 1)) ((xs 2))) (cwV 2 hts (gk_V tw_1052 tw_1053 tw_1054 tw_157 wki_f_X11_send wkg_f_X11_send) rfl rfl rfl (by decide +kernel) ⟨Nat.le_of_ble_eq_true rfl, Nat.le_of_ble_eq_true rfl⟩) ⟨fun a U g mk q => by obtain ⟨q0, qP, qK⟩ := q; exact ⟨q0, qP, va_K.moved (u := U) (U := U.calling g mk a) (Vm.Alike.refl U.vm) qK⟩, va_recv hKc hPc (ci := 11) (q0 := 0) rfl rfl, fun U hU hW => ⟨rfl, by rw [hU]; exact hPc, va_K.moved hW.alike hKc⟩⟩ rfl rfl hl.1 rfl (lv_room (Nat.le_of_ble_eq_true rfl)) dL_law_1855 ⟨Nat.le_of_ble_eq_true rfl, Nat.le_of_ble_eq_true rfl⟩)) (fun oz4 gz3 => ?_)
  obtain rfl := gz3
  refine lv_aload_n hx hb dL_law_1858 rfl (lv_at hl 2 rfl) ?_
  refine lv_aload_n hx hb dL_law_1859 rfl (lv_at hl 0 rfl) ?_
  refine lv_iload_n hx hb dL_law_1860 rfl (lv_at hl 3 rfl) ?_
  refine lv_iconst (v := 1) hx hb dL_law_1861 (by decide) ?_
  refine lv_iadd hx hb dL_law_1862 ?_
  refine lv_topi (fun xz5 exz5 => ?_)
  obtain rfl : xz5 = 1 := exz5.trans (by decide)
  refine va_sld hx hb hX hbl hbA hS (by rw [hL6]; unfold vp_in; decide) dL_law_1863 ?_
  refine W.eq (g2 := F0 m 1864 ls [.int (xs 1), .ref (r 0), .int (-2)]) rfl ?_
  refine lv_aload_n hx hb dL_law_1864 rfl (lv_at hl 0 rfl) ?_
  refine lv_iload_n hx hb dL_law_1865 rfl (lv_at hl 3 rfl) ?_
  refine lv_iconst (v := 2) hx hb dL_law_1866 (by decide) ?_
  refine lv_iadd hx hb dL_law_1867 ?_
  refine lv_topi (fun xz6 exz6 => ?_)
  obtain rfl : xz6 = 2 := exz6.trans (by decide)
  refine va_sld hx hb hX hbl hbA hS (by rw [hL6]; unfold vp_in; decide) dL_law_1868 ?_
  refine W.eq (g2 := F0 m 1869 ls [.int (xs 2), .int (xs 1), .ref (r 0), .int (-2)]) rfl ?_
  have hPc := hP.sub (ws' := [((r 0), .inr (12, [.int 0, .ref (r 1), .ref (r 2), .ref (r 3), .ref (r 4), .ref (r 5), .int 0, .int 0, .int 0, .int 0, .int 0, .long 0, .int 0, .int 0, .int 0, .int (-1), .ref (r 6), .ref (r 7), .ref (r 8), .ref (r 9), .ref (r 10), .ref (r 11), .ref (r 12), .ref (r 13), .int 0, .int 0, .int 0, .ref (r 14), .ref (r 15), .ref (r 16), .ref (r 17), .ref (r 18), .ref (r 19), .ref (r 20), .ref (r 21), .ref (r 22), .ref (r 23), .ref (r 24), .ref (r 25), .ref (r 26), .ref (r 27), .ref (r 28), .ref (r 29), .int 0, .int 0, .int 0, .ref (r 30), .int 0, .int 0, .int 0, .int 0, .int 0, .int 0, .ref (r 31), .int 0, .int 0, .int 0, .ref (r 32), .ref (r 33)])), ((r 6), .inl ((j 4), 5, .inl (fun _ => 0))), ((r 7), .inl ((j 5), 40, .inl (fun _ => 0)))]) [78, 83, 84] rfl
  have hKc := hK.sub (tys' := [((j 4), .int), ((j 5), .int)]) [60, 61] rfl
  have hDc := hD.sub (ws' := [((r 0), .inr (12, [.int 0, .ref (r 1), .ref (r 2), .ref (r 3), .ref (r 4), .ref (r 5), .int 0, .int 0, .int 0, .int 0, .int 0, .long 0, .int 0, .int 0, .int 0, .int (-1), .ref (r 6), .ref (r 7), .ref (r 8), .ref (r 9), .ref (r 10), .ref (r 11), .ref (r 12), .ref (r 13), .int 0, .int 0, .int 0, .ref (r 14), .ref (r 15), .ref (r 16), .ref (r 17), .ref (r 18), .ref (r 19), .ref (r 20), .ref (r 21), .ref (r 22), .ref (r 23), .ref (r 24), .ref (r 25), .ref (r 26), .ref (r 27), .ref (r 28), .ref (r 29), .int 0, .int 0, .int 0, .ref (r 30), .int 0, .int 0, .int 0, .int 0, .int 0, .int 0, .ref (r 31), .int 0, .int 0, .int 0, .ref (r 32), .ref (r 33)])), ((r 6), .inl ((j 4), 5, .inl (fun _ => 0))), ((r 7), .inl ((j 5), 40, .inl (fun _ => 0)))]) [78, 83, 84] (by decide) rfl
  have hFc := va_free (wc := [((r 0), .inr (12, [.int 0, .ref (r 1), .ref (r 2), .ref (r 3), .ref (r 4), .ref (r 5), .int 0, .int 0, .int 0, .int 0, .int 0, .long 0, .int 0, .int 0, .int 0, .int (-1), .ref (r 6), .ref (r 7), .ref (r 8), .ref (r 9), .ref (r 10), .ref (r 11), .ref (r 12), .ref (r 13), .int 0, .int 0, .int 0, .ref (r 14), .ref (r 15), .ref (r 16), .ref (r 17), .ref (r 18), .ref (r 19), .ref (r 20), .ref (r 21), .ref (r 22), .ref (r 23), .ref (r 24), .ref (r 25), .ref (r 26), .ref (r 27), .ref (r 28), .ref (r 29), .int 0, .int 0, .int 0, .ref (r 30), .int 0, .int 0, .int 0, .int 0, .int 0, .int 0, .ref (r 31), .int 0, .int 0, .int 0, .ref (r 32), .ref (r 33)])), ((r 6), .inl ((j 4), 5, .inl (fun _ => 0))), ((r 7), .inl ((j 5), 40, .inl (fun _ => 0)))]) hD hS hA [78, 83, 84] rfl
  refine va_calli (va_runV (As := [.int (xs 1), .int (xs 2)]) (rest := [.int (-2)]) ⟨hx, hb, hml, hown, hts⟩ (f_X12_send l dC dI H.size ((r 0)) ((r 1)) ((r 2)) ((r 3)) ((r 4)) ((r 5)) ((r 6)) ((r 7)) ((r 8)) ((r 9)) ((r 10)) ((r 11)) ((r 12)) ((r 13)) ((r 14)) ((r 15)) ((r 16)) ((r 17)) ((r 18)) ((r 19)) ((r 20)) ((r 21)) ((r 22)) ((r 23)) ((r 24)) ((r 25)) ((r 26)) ((r 27)) ((r 28)) ((r 29)) ((r 30)) ((r 31)) ((r 32)) ((r 33)) ((j 4)) ((j 5)) ((xs 1)) ((xs 2))) (cwV 2 hts (gk_V tw_1055 tw_1056 tw_1057 tw_505 wki_f_X12_send wkg_f_X12_send) rfl rfl rfl (by decide +kernel) ⟨Nat.le_of_ble_eq_true rfl, Nat.le_of_ble_eq_true rfl⟩) ⟨fun a U g mk q => by obtain ⟨q0, q1, qP, qK, qD⟩ := q; exact ⟨q0, q1, qP, va_K.moved (u := U) (U := U.calling g mk a) (Vm.Alike.refl U.vm) qK, qD⟩, va_recv hKc hPc (ci := 12) (q0 := 0) rfl rfl, fun U hU hW => ⟨rfl, by rw [hU], by rw [hU]; exact hPc, va_K.moved hW.alike hKc, hDc.weaken (fun _ _ _ _ => trivial)⟩⟩ rfl rfl hl.1 rfl (lv_room (Nat.le_of_ble_eq_true rfl)) dL_law_1869 ⟨Nat.le_of_ble_eq_true rfl, Nat.le_of_ble_eq_true rfl⟩) hS (fun q _ h => hFc q h) hFc (fun oz8 u t H1 locs ht hvm gz7 hB hz1 hk1 hS => ?_)
  generalize H1 = H at hS ⊢
  refine W.widen (k := 305) (n := 4995) (Nat.le_of_ble_eq_true rfl) (Nat.le_of_ble_eq_true rfl) ?_
  obtain rfl := gz7
  refine lv_icmp_eq (tgt := 2293) hx hb dL_law_1872 (by decide) (fun cz9 => ?_) (fun cz9 => ?_)
  · skip
    exact law_end (dC := dC) (dI := dI) (Nat.le_of_eq hL6) C0 A hAe (q 0) (r 0) H locs hS ls hl
  · skip
    exact absurd cz9 (by decide)
set_option maxHeartbeats 4000000 in
set_option maxRecDepth 100000 in
theorem law_case_60 {p : Program} {l : Launch} {e : Env} {s : State} {m : MethodId} {below : List Frame} {meth : Method} {c : Code} {dC : Nat → ClassId} {dI : Nat → Nat → Nat} {b L : Nat} {xs : Nat → Int32} (hL6 : L = 6) (C0 : lw_At p s m meth c b L xs) (A : Nat → Prop) (hAe : A = fun q => s.heap.size ≤ q) (q r : Nat → Nat) (k j : Nat → ClassId) (H : Heap) (locs : List Loc) (hK : va_K (dC, dI) vwCl (tX k ++ tM j) s) (hP : va_P (dC, dI) vwCl (wX q k ++ wM r j) H) (hD : va_D A (wX q k ++ wM r j)) (hS : va_S A s.heap H locs) (ls : Array Slot) (hl : lv_has ls 4 [(0, .ref b), (1, .ref (q 0)), (2, .ref (r 0)), (3, .int 0)]) : W p l e room_1 s m #[Value.ref b] below meth c H locs 305 4995 (lw_Z below #[Value.ref b] s) (F0 m 1877 ls []) := by
  obtain ⟨hx, hb, hr, hml, hown, hts, hX, hbl, hlocks, hgv⟩ := id C0
  have hown : s.vm.findClass RL = some m.cls := hown
  have hA : ∀ q : Nat, s.heap.size ≤ q → A q := by rw [hAe]; exact fun _ h => h
  have hbA : ¬ A b := by rw [hAe]; exact Nat.not_le.mpr hbl
  refine lv_aload_n hx hb dL_law_1877 rfl (lv_at hl 1 rfl) ?_
  refine lv_aload_n hx hb dL_law_1878 rfl (lv_at hl 0 rfl) ?_
  refine lv_iload_n hx hb dL_law_1879 rfl (lv_at hl 3 rfl) ?_
  refine lv_iconst (v := 1) hx hb dL_law_1880 (by decide) ?_
  refine lv_iadd hx hb dL_law_1881 ?_
  refine lv_topi (fun xz1 exz1 => ?_)
  obtain rfl : xz1 = 1 := exz1.trans (by decide)
  refine va_sld hx hb hX hbl hbA hS (by rw [hL6]; unfold vp_in; decide) dL_law_1882 ?_
  refine W.eq (g2 := F0 m 1883 ls [.int (xs 1), .ref (q 0)]) rfl ?_
  refine lv_aload_n hx hb dL_law_1883 rfl (lv_at hl 0 rfl) ?_
  refine lv_iload_n hx hb dL_law_1884 rfl (lv_at hl 3 rfl) ?_
  refine lv_iconst (v := 2) hx hb dL_law_1885 (by decide) ?_
  refine lv_iadd hx hb dL_law_1886 ?_
  refine lv_topi (fun xz2 exz2 => ?_)
  obtain rfl : xz2 = 2 := exz2.trans (by decide)
  refine va_sld hx hb hX hbl hbA hS (by rw [hL6]; unfold vp_in; decide) dL_law_1887 ?_
  refine W.eq (g2 := F0 m 1888 ls [.int (xs 2), .int (xs 1), .ref (q 0)]) rfl ?_
  have hPc := hP.sub (ws' := [((q 0), .inr (11, [.ref (q 1), .ref (q 2), .ref (q 3), .ref (q 4), .ref (q 5), .ref (q 6), .ref (q 7), .ref (q 8), .ref (q 9), .ref (q 10), .ref (q 11), .ref (q 12), .ref (q 13), .ref (q 14), .ref (q 15)])), ((q 2), .inr (10, [.ref (q 25), .ref (q 26), .ref (q 27), .ref (q 28), .ref (q 29), .ref (q 30), .ref (q 31), .int 0, .int 0, .int 0, .int 0, .int 0, .int 0, .int 0, .int 0, .int 0]))]) [0, 11] rfl
  have hKc := hK.sub (tys' := []) [] rfl
  refine vp_callSi (va_Run.run (va_runV (As := [.int (xs 1), .int (xs 2)]) (rest := []) ⟨hx, hb, hml, hown, hts⟩ (f_X11_freeze l dC dI ((q 0)) ((q 1)) ((q 2)) ((q 3)) ((q 4)) ((q 5)) ((q 6)) ((q 7)) ((q 8)) ((q 9)) ((q 10)) ((q 11)) ((q 12)) ((q 13)) ((q 14)) ((q 15)) ((q 25)) ((q 26)) ((q 27)) ((q 28)) ((q 29)) ((q 30)) ((q 31)) ((xs 1)) ((xs 2))) (cwV 2 hts (gk_V tw_1058 tw_1059 tw_1060 tw_157 wki_f_X11_freeze wkg_f_X11_freeze) rfl rfl rfl (by decide +kernel) ⟨Nat.le_of_ble_eq_true rfl, Nat.le_of_ble_eq_true rfl⟩) ⟨fun a U g mk q => by obtain ⟨q0, qP, qK⟩ := q; exact ⟨q0, qP, va_K.moved (u := U) (U := U.calling g mk a) (Vm.Alike.refl U.vm) qK⟩, va_recv hKc hPc (ci := 11) (q0 := 0) rfl rfl, fun U hU hW => ⟨rfl, by rw [hU]; exact hPc, va_K.moved hW.alike hKc⟩⟩ rfl rfl hl.1 rfl (lv_room (Nat.le_of_ble_eq_true rfl)) dL_law_1888 ⟨Nat.le_of_ble_eq_true rfl, Nat.le_of_ble_eq_true rfl⟩)) (fun oz4 gz3 => ?_)
  obtain rfl := gz3
  refine lv_aload_n hx hb dL_law_1891 rfl (lv_at hl 2 rfl) ?_
  refine lv_aload_n hx hb dL_law_1892 rfl (lv_at hl 0 rfl) ?_
  refine lv_iload_n hx hb dL_law_1893 rfl (lv_at hl 3 rfl) ?_
  refine lv_iconst (v := 1) hx hb dL_law_1894 (by decide) ?_
  refine lv_iadd hx hb dL_law_1895 ?_
  refine lv_topi (fun xz5 exz5 => ?_)
  obtain rfl : xz5 = 1 := exz5.trans (by decide)
  refine va_sld hx hb hX hbl hbA hS (by rw [hL6]; unfold vp_in; decide) dL_law_1896 ?_
  refine W.eq (g2 := F0 m 1897 ls [.int (xs 1), .ref (r 0), .int (-2)]) rfl ?_
  refine lv_aload_n hx hb dL_law_1897 rfl (lv_at hl 0 rfl) ?_
  refine lv_iload_n hx hb dL_law_1898 rfl (lv_at hl 3 rfl) ?_
  refine lv_iconst (v := 2) hx hb dL_law_1899 (by decide) ?_
  refine lv_iadd hx hb dL_law_1900 ?_
  refine lv_topi (fun xz6 exz6 => ?_)
  obtain rfl : xz6 = 2 := exz6.trans (by decide)
  refine va_sld hx hb hX hbl hbA hS (by rw [hL6]; unfold vp_in; decide) dL_law_1901 ?_
  refine W.eq (g2 := F0 m 1902 ls [.int (xs 2), .int (xs 1), .ref (r 0), .int (-2)]) rfl ?_
  have hPc := hP.sub (ws' := [((r 0), .inr (12, [.int 0, .ref (r 1), .ref (r 2), .ref (r 3), .ref (r 4), .ref (r 5), .int 0, .int 0, .int 0, .int 0, .int 0, .long 0, .int 0, .int 0, .int 0, .int (-1), .ref (r 6), .ref (r 7), .ref (r 8), .ref (r 9), .ref (r 10), .ref (r 11), .ref (r 12), .ref (r 13), .int 0, .int 0, .int 0, .ref (r 14), .ref (r 15), .ref (r 16), .ref (r 17), .ref (r 18), .ref (r 19), .ref (r 20), .ref (r 21), .ref (r 22), .ref (r 23), .ref (r 24), .ref (r 25), .ref (r 26), .ref (r 27), .ref (r 28), .ref (r 29), .int 0, .int 0, .int 0, .ref (r 30), .int 0, .int 0, .int 0, .int 0, .int 0, .int 0, .ref (r 31), .int 0, .int 0, .int 0, .ref (r 32), .ref (r 33)])), ((r 6), .inl ((j 4), 5, .inl (fun _ => 0))), ((r 7), .inl ((j 5), 40, .inl (fun _ => 0)))]) [78, 83, 84] rfl
  have hKc := hK.sub (tys' := [((j 4), .int), ((j 5), .int)]) [60, 61] rfl
  have hDc := hD.sub (ws' := [((r 0), .inr (12, [.int 0, .ref (r 1), .ref (r 2), .ref (r 3), .ref (r 4), .ref (r 5), .int 0, .int 0, .int 0, .int 0, .int 0, .long 0, .int 0, .int 0, .int 0, .int (-1), .ref (r 6), .ref (r 7), .ref (r 8), .ref (r 9), .ref (r 10), .ref (r 11), .ref (r 12), .ref (r 13), .int 0, .int 0, .int 0, .ref (r 14), .ref (r 15), .ref (r 16), .ref (r 17), .ref (r 18), .ref (r 19), .ref (r 20), .ref (r 21), .ref (r 22), .ref (r 23), .ref (r 24), .ref (r 25), .ref (r 26), .ref (r 27), .ref (r 28), .ref (r 29), .int 0, .int 0, .int 0, .ref (r 30), .int 0, .int 0, .int 0, .int 0, .int 0, .int 0, .ref (r 31), .int 0, .int 0, .int 0, .ref (r 32), .ref (r 33)])), ((r 6), .inl ((j 4), 5, .inl (fun _ => 0))), ((r 7), .inl ((j 5), 40, .inl (fun _ => 0)))]) [78, 83, 84] (by decide) rfl
  have hFc := va_free (wc := [((r 0), .inr (12, [.int 0, .ref (r 1), .ref (r 2), .ref (r 3), .ref (r 4), .ref (r 5), .int 0, .int 0, .int 0, .int 0, .int 0, .long 0, .int 0, .int 0, .int 0, .int (-1), .ref (r 6), .ref (r 7), .ref (r 8), .ref (r 9), .ref (r 10), .ref (r 11), .ref (r 12), .ref (r 13), .int 0, .int 0, .int 0, .ref (r 14), .ref (r 15), .ref (r 16), .ref (r 17), .ref (r 18), .ref (r 19), .ref (r 20), .ref (r 21), .ref (r 22), .ref (r 23), .ref (r 24), .ref (r 25), .ref (r 26), .ref (r 27), .ref (r 28), .ref (r 29), .int 0, .int 0, .int 0, .ref (r 30), .int 0, .int 0, .int 0, .int 0, .int 0, .int 0, .ref (r 31), .int 0, .int 0, .int 0, .ref (r 32), .ref (r 33)])), ((r 6), .inl ((j 4), 5, .inl (fun _ => 0))), ((r 7), .inl ((j 5), 40, .inl (fun _ => 0)))]) hD hS hA [78, 83, 84] rfl
  refine va_calli (va_runV (As := [.int (xs 1), .int (xs 2)]) (rest := [.int (-2)]) ⟨hx, hb, hml, hown, hts⟩ (f_X12_freeze l dC dI H.size ((r 0)) ((r 1)) ((r 2)) ((r 3)) ((r 4)) ((r 5)) ((r 6)) ((r 7)) ((r 8)) ((r 9)) ((r 10)) ((r 11)) ((r 12)) ((r 13)) ((r 14)) ((r 15)) ((r 16)) ((r 17)) ((r 18)) ((r 19)) ((r 20)) ((r 21)) ((r 22)) ((r 23)) ((r 24)) ((r 25)) ((r 26)) ((r 27)) ((r 28)) ((r 29)) ((r 30)) ((r 31)) ((r 32)) ((r 33)) ((j 4)) ((j 5)) ((xs 1)) ((xs 2))) (cwV 2 hts (gk_V tw_1061 tw_1062 tw_1063 tw_505 wki_f_X12_freeze wkg_f_X12_freeze) rfl rfl rfl (by decide +kernel) ⟨Nat.le_of_ble_eq_true rfl, Nat.le_of_ble_eq_true rfl⟩) ⟨fun a U g mk q => by obtain ⟨q0, q1, qP, qK, qD⟩ := q; exact ⟨q0, q1, qP, va_K.moved (u := U) (U := U.calling g mk a) (Vm.Alike.refl U.vm) qK, qD⟩, va_recv hKc hPc (ci := 12) (q0 := 0) rfl rfl, fun U hU hW => ⟨rfl, by rw [hU], by rw [hU]; exact hPc, va_K.moved hW.alike hKc, hDc.weaken (fun _ _ _ _ => trivial)⟩⟩ rfl rfl hl.1 rfl (lv_room (Nat.le_of_ble_eq_true rfl)) dL_law_1902 ⟨Nat.le_of_ble_eq_true rfl, Nat.le_of_ble_eq_true rfl⟩) hS (fun q _ h => hFc q h) hFc (fun oz8 u t H1 locs ht hvm gz7 hB hz1 hk1 hS => ?_)
  generalize H1 = H at hS ⊢
  refine W.widen (k := 305) (n := 4995) (Nat.le_of_ble_eq_true rfl) (Nat.le_of_ble_eq_true rfl) ?_
  obtain rfl := gz7
  refine lv_icmp_eq (tgt := 2293) hx hb dL_law_1905 (by decide) (fun cz9 => ?_) (fun cz9 => ?_)
  · skip
    exact law_end (dC := dC) (dI := dI) (Nat.le_of_eq hL6) C0 A hAe (q 0) (r 0) H locs hS ls hl
  · skip
    exact absurd cz9 (by decide)
set_option maxHeartbeats 4000000 in
set_option maxRecDepth 100000 in
theorem law_case_61 {p : Program} {l : Launch} {e : Env} {s : State} {m : MethodId} {below : List Frame} {meth : Method} {c : Code} {dC : Nat → ClassId} {dI : Nat → Nat → Nat} {b L : Nat} {xs : Nat → Int32} (hL6 : L = 6) (C0 : lw_At p s m meth c b L xs) (A : Nat → Prop) (hAe : A = fun q => s.heap.size ≤ q) (q r : Nat → Nat) (k j : Nat → ClassId) (H : Heap) (locs : List Loc) (hK : va_K (dC, dI) vwCl (tX k ++ tM j) s) (hP : va_P (dC, dI) vwCl (wX q k ++ wM r j) H) (hD : va_D A (wX q k ++ wM r j)) (hS : va_S A s.heap H locs) (ls : Array Slot) (hl : lv_has ls 4 [(0, .ref b), (1, .ref (q 0)), (2, .ref (r 0)), (3, .int 0)]) : W p l e room_1 s m #[Value.ref b] below meth c H locs 305 4995 (lw_Z below #[Value.ref b] s) (F0 m 1910 ls []) := by
  obtain ⟨hx, hb, hr, hml, hown, hts, hX, hbl, hlocks, hgv⟩ := id C0
  have hown : s.vm.findClass RL = some m.cls := hown
  have hA : ∀ q : Nat, s.heap.size ≤ q → A q := by rw [hAe]; exact fun _ h => h
  have hbA : ¬ A b := by rw [hAe]; exact Nat.not_le.mpr hbl
  refine lv_aload_n hx hb dL_law_1910 rfl (lv_at hl 1 rfl) ?_
  have hPc := hP.sub (ws' := [((q 0), .inr (11, [.ref (q 1), .ref (q 2), .ref (q 3), .ref (q 4), .ref (q 5), .ref (q 6), .ref (q 7), .ref (q 8), .ref (q 9), .ref (q 10), .ref (q 11), .ref (q 12), .ref (q 13), .ref (q 14), .ref (q 15)])), ((q 2), .inr (10, [.ref (q 25), .ref (q 26), .ref (q 27), .ref (q 28), .ref (q 29), .ref (q 30), .ref (q 31), .int 0, .int 0, .int 0, .int 0, .int 0, .int 0, .int 0, .int 0, .int 0]))]) [0, 11] rfl
  have hKc := hK.sub (tys' := []) [] rfl
  refine vp_callSi (va_Run.run (va_runV (As := []) (rest := []) ⟨hx, hb, hml, hown, hts⟩ (f_X11_undo l dC dI ((q 0)) ((q 1)) ((q 2)) ((q 3)) ((q 4)) ((q 5)) ((q 6)) ((q 7)) ((q 8)) ((q 9)) ((q 10)) ((q 11)) ((q 12)) ((q 13)) ((q 14)) ((q 15)) ((q 25)) ((q 26)) ((q 27)) ((q 28)) ((q 29)) ((q 30)) ((q 31))) (cwV 0 hts (gk_V tw_1064 tw_1065 tw_1066 tw_157 wki_f_X11_undo wkg_f_X11_undo) rfl rfl rfl (by decide +kernel) ⟨Nat.le_of_ble_eq_true rfl, Nat.le_of_ble_eq_true rfl⟩) ⟨fun a U g mk q => by obtain ⟨q0, qP, qK⟩ := q; exact ⟨q0, qP, va_K.moved (u := U) (U := U.calling g mk a) (Vm.Alike.refl U.vm) qK⟩, va_recv hKc hPc (ci := 11) (q0 := 0) rfl rfl, fun U hU hW => ⟨rfl, by rw [hU]; exact hPc, va_K.moved hW.alike hKc⟩⟩ rfl rfl hl.1 rfl (lv_room (Nat.le_of_ble_eq_true rfl)) dL_law_1911 ⟨Nat.le_of_ble_eq_true rfl, Nat.le_of_ble_eq_true rfl⟩)) (fun oz2 gz1 => ?_)
  obtain rfl := gz1
  refine lv_aload_n hx hb dL_law_1914 rfl (lv_at hl 2 rfl) ?_
  have hPc := hP.sub (ws' := [((r 0), .inr (12, [.int 0, .ref (r 1), .ref (r 2), .ref (r 3), .ref (r 4), .ref (r 5), .int 0, .int 0, .int 0, .int 0, .int 0, .long 0, .int 0, .int 0, .int 0, .int (-1), .ref (r 6), .ref (r 7), .ref (r 8), .ref (r 9), .ref (r 10), .ref (r 11), .ref (r 12), .ref (r 13), .int 0, .int 0, .int 0, .ref (r 14), .ref (r 15), .ref (r 16), .ref (r 17), .ref (r 18), .ref (r 19), .ref (r 20), .ref (r 21), .ref (r 22), .ref (r 23), .ref (r 24), .ref (r 25), .ref (r 26), .ref (r 27), .ref (r 28), .ref (r 29), .int 0, .int 0, .int 0, .ref (r 30), .int 0, .int 0, .int 0, .int 0, .int 0, .int 0, .ref (r 31), .int 0, .int 0, .int 0, .ref (r 32), .ref (r 33)])), ((r 6), .inl ((j 4), 5, .inl (fun _ => 0))), ((r 7), .inl ((j 5), 40, .inl (fun _ => 0)))]) [78, 83, 84] rfl
  have hKc := hK.sub (tys' := [((j 4), .int), ((j 5), .int)]) [60, 61] rfl
  have hDc := hD.sub (ws' := [((r 0), .inr (12, [.int 0, .ref (r 1), .ref (r 2), .ref (r 3), .ref (r 4), .ref (r 5), .int 0, .int 0, .int 0, .int 0, .int 0, .long 0, .int 0, .int 0, .int 0, .int (-1), .ref (r 6), .ref (r 7), .ref (r 8), .ref (r 9), .ref (r 10), .ref (r 11), .ref (r 12), .ref (r 13), .int 0, .int 0, .int 0, .ref (r 14), .ref (r 15), .ref (r 16), .ref (r 17), .ref (r 18), .ref (r 19), .ref (r 20), .ref (r 21), .ref (r 22), .ref (r 23), .ref (r 24), .ref (r 25), .ref (r 26), .ref (r 27), .ref (r 28), .ref (r 29), .int 0, .int 0, .int 0, .ref (r 30), .int 0, .int 0, .int 0, .int 0, .int 0, .int 0, .ref (r 31), .int 0, .int 0, .int 0, .ref (r 32), .ref (r 33)])), ((r 6), .inl ((j 4), 5, .inl (fun _ => 0))), ((r 7), .inl ((j 5), 40, .inl (fun _ => 0)))]) [78, 83, 84] (by decide) rfl
  have hFc := va_free (wc := [((r 0), .inr (12, [.int 0, .ref (r 1), .ref (r 2), .ref (r 3), .ref (r 4), .ref (r 5), .int 0, .int 0, .int 0, .int 0, .int 0, .long 0, .int 0, .int 0, .int 0, .int (-1), .ref (r 6), .ref (r 7), .ref (r 8), .ref (r 9), .ref (r 10), .ref (r 11), .ref (r 12), .ref (r 13), .int 0, .int 0, .int 0, .ref (r 14), .ref (r 15), .ref (r 16), .ref (r 17), .ref (r 18), .ref (r 19), .ref (r 20), .ref (r 21), .ref (r 22), .ref (r 23), .ref (r 24), .ref (r 25), .ref (r 26), .ref (r 27), .ref (r 28), .ref (r 29), .int 0, .int 0, .int 0, .ref (r 30), .int 0, .int 0, .int 0, .int 0, .int 0, .int 0, .ref (r 31), .int 0, .int 0, .int 0, .ref (r 32), .ref (r 33)])), ((r 6), .inl ((j 4), 5, .inl (fun _ => 0))), ((r 7), .inl ((j 5), 40, .inl (fun _ => 0)))]) hD hS hA [78, 83, 84] rfl
  refine va_calli (va_runV (As := []) (rest := [.int (-2)]) ⟨hx, hb, hml, hown, hts⟩ (f_X12_undo l dC dI H.size ((r 0)) ((r 1)) ((r 2)) ((r 3)) ((r 4)) ((r 5)) ((r 6)) ((r 7)) ((r 8)) ((r 9)) ((r 10)) ((r 11)) ((r 12)) ((r 13)) ((r 14)) ((r 15)) ((r 16)) ((r 17)) ((r 18)) ((r 19)) ((r 20)) ((r 21)) ((r 22)) ((r 23)) ((r 24)) ((r 25)) ((r 26)) ((r 27)) ((r 28)) ((r 29)) ((r 30)) ((r 31)) ((r 32)) ((r 33)) ((j 4)) ((j 5))) (cwV 0 hts (gk_V tw_1067 tw_1068 tw_1069 tw_505 wki_f_X12_undo wkg_f_X12_undo) rfl rfl rfl (by decide +kernel) ⟨Nat.le_of_ble_eq_true rfl, Nat.le_of_ble_eq_true rfl⟩) ⟨fun a U g mk q => by obtain ⟨q0, q1, qP, qK, qD⟩ := q; exact ⟨q0, q1, qP, va_K.moved (u := U) (U := U.calling g mk a) (Vm.Alike.refl U.vm) qK, qD⟩, va_recv hKc hPc (ci := 12) (q0 := 0) rfl rfl, fun U hU hW => ⟨rfl, by rw [hU], by rw [hU]; exact hPc, va_K.moved hW.alike hKc, hDc.weaken (fun _ _ _ _ => trivial)⟩⟩ rfl rfl hl.1 rfl (lv_room (Nat.le_of_ble_eq_true rfl)) dL_law_1915 ⟨Nat.le_of_ble_eq_true rfl, Nat.le_of_ble_eq_true rfl⟩) hS (fun q _ h => hFc q h) hFc (fun oz4 u t H1 locs ht hvm gz3 hB hz1 hk1 hS => ?_)
  generalize H1 = H at hS ⊢
  refine W.widen (k := 305) (n := 4995) (Nat.le_of_ble_eq_true rfl) (Nat.le_of_ble_eq_true rfl) ?_
  obtain rfl := gz3
  refine lv_icmp_eq (tgt := 2293) hx hb dL_law_1918 (by decide) (fun cz5 => ?_) (fun cz5 => ?_)
  · skip
    exact law_end (dC := dC) (dI := dI) (Nat.le_of_eq hL6) C0 A hAe (q 0) (r 0) H locs hS ls hl
  · skip
    exact absurd cz5 (by decide)
set_option maxHeartbeats 4000000 in
set_option maxRecDepth 100000 in
theorem law_case_62 {p : Program} {l : Launch} {e : Env} {s : State} {m : MethodId} {below : List Frame} {meth : Method} {c : Code} {dC : Nat → ClassId} {dI : Nat → Nat → Nat} {b L : Nat} {xs : Nat → Int32} (hL6 : L = 6) (C0 : lw_At p s m meth c b L xs) (A : Nat → Prop) (hAe : A = fun q => s.heap.size ≤ q) (q r : Nat → Nat) (k j : Nat → ClassId) (H : Heap) (locs : List Loc) (hK : va_K (dC, dI) vwCl (tX k ++ tM j) s) (hP : va_P (dC, dI) vwCl (wX q k ++ wM r j) H) (hD : va_D A (wX q k ++ wM r j)) (hS : va_S A s.heap H locs) (ls : Array Slot) (hl : lv_has ls 4 [(0, .ref b), (1, .ref (q 0)), (2, .ref (r 0)), (3, .int 0)]) : W p l e room_1 s m #[Value.ref b] below meth c H locs 305 4995 (lw_Z below #[Value.ref b] s) (F0 m 1923 ls []) := by
  obtain ⟨hx, hb, hr, hml, hown, hts, hX, hbl, hlocks, hgv⟩ := id C0
  have hown : s.vm.findClass RL = some m.cls := hown
  have hA : ∀ q : Nat, s.heap.size ≤ q → A q := by rw [hAe]; exact fun _ h => h
  have hbA : ¬ A b := by rw [hAe]; exact Nat.not_le.mpr hbl
  refine lv_aload_n hx hb dL_law_1923 rfl (lv_at hl 1 rfl) ?_
  have hPc := hP.sub (ws' := [((q 0), .inr (11, [.ref (q 1), .ref (q 2), .ref (q 3), .ref (q 4), .ref (q 5), .ref (q 6), .ref (q 7), .ref (q 8), .ref (q 9), .ref (q 10), .ref (q 11), .ref (q 12), .ref (q 13), .ref (q 14), .ref (q 15)])), ((q 2), .inr (10, [.ref (q 25), .ref (q 26), .ref (q 27), .ref (q 28), .ref (q 29), .ref (q 30), .ref (q 31), .int 0, .int 0, .int 0, .int 0, .int 0, .int 0, .int 0, .int 0, .int 0]))]) [0, 11] rfl
  have hKc := hK.sub (tys' := []) [] rfl
  refine vp_callSi (va_Run.run (va_runV (As := []) (rest := []) ⟨hx, hb, hml, hown, hts⟩ (f_X11_anew l dC dI ((q 0)) ((q 1)) ((q 2)) ((q 3)) ((q 4)) ((q 5)) ((q 6)) ((q 7)) ((q 8)) ((q 9)) ((q 10)) ((q 11)) ((q 12)) ((q 13)) ((q 14)) ((q 15)) ((q 25)) ((q 26)) ((q 27)) ((q 28)) ((q 29)) ((q 30)) ((q 31))) (cwV 0 hts (gk_V tw_1070 tw_1071 tw_1072 tw_157 wki_f_X11_anew wkg_f_X11_anew) rfl rfl rfl (by decide +kernel) ⟨Nat.le_of_ble_eq_true rfl, Nat.le_of_ble_eq_true rfl⟩) ⟨fun a U g mk q => by obtain ⟨q0, qP, qK⟩ := q; exact ⟨q0, qP, va_K.moved (u := U) (U := U.calling g mk a) (Vm.Alike.refl U.vm) qK⟩, va_recv hKc hPc (ci := 11) (q0 := 0) rfl rfl, fun U hU hW => ⟨rfl, by rw [hU]; exact hPc, va_K.moved hW.alike hKc⟩⟩ rfl rfl hl.1 rfl (lv_room (Nat.le_of_ble_eq_true rfl)) dL_law_1924 ⟨Nat.le_of_ble_eq_true rfl, Nat.le_of_ble_eq_true rfl⟩)) (fun oz2 gz1 => ?_)
  obtain rfl := gz1
  refine lv_aload_n hx hb dL_law_1927 rfl (lv_at hl 2 rfl) ?_
  have hPc := hP.sub (ws' := [((r 0), .inr (12, [.int 0, .ref (r 1), .ref (r 2), .ref (r 3), .ref (r 4), .ref (r 5), .int 0, .int 0, .int 0, .int 0, .int 0, .long 0, .int 0, .int 0, .int 0, .int (-1), .ref (r 6), .ref (r 7), .ref (r 8), .ref (r 9), .ref (r 10), .ref (r 11), .ref (r 12), .ref (r 13), .int 0, .int 0, .int 0, .ref (r 14), .ref (r 15), .ref (r 16), .ref (r 17), .ref (r 18), .ref (r 19), .ref (r 20), .ref (r 21), .ref (r 22), .ref (r 23), .ref (r 24), .ref (r 25), .ref (r 26), .ref (r 27), .ref (r 28), .ref (r 29), .int 0, .int 0, .int 0, .ref (r 30), .int 0, .int 0, .int 0, .int 0, .int 0, .int 0, .ref (r 31), .int 0, .int 0, .int 0, .ref (r 32), .ref (r 33)])), ((r 6), .inl ((j 4), 5, .inl (fun _ => 0))), ((r 7), .inl ((j 5), 40, .inl (fun _ => 0)))]) [78, 83, 84] rfl
  have hKc := hK.sub (tys' := [((j 4), .int), ((j 5), .int)]) [60, 61] rfl
  have hDc := hD.sub (ws' := [((r 0), .inr (12, [.int 0, .ref (r 1), .ref (r 2), .ref (r 3), .ref (r 4), .ref (r 5), .int 0, .int 0, .int 0, .int 0, .int 0, .long 0, .int 0, .int 0, .int 0, .int (-1), .ref (r 6), .ref (r 7), .ref (r 8), .ref (r 9), .ref (r 10), .ref (r 11), .ref (r 12), .ref (r 13), .int 0, .int 0, .int 0, .ref (r 14), .ref (r 15), .ref (r 16), .ref (r 17), .ref (r 18), .ref (r 19), .ref (r 20), .ref (r 21), .ref (r 22), .ref (r 23), .ref (r 24), .ref (r 25), .ref (r 26), .ref (r 27), .ref (r 28), .ref (r 29), .int 0, .int 0, .int 0, .ref (r 30), .int 0, .int 0, .int 0, .int 0, .int 0, .int 0, .ref (r 31), .int 0, .int 0, .int 0, .ref (r 32), .ref (r 33)])), ((r 6), .inl ((j 4), 5, .inl (fun _ => 0))), ((r 7), .inl ((j 5), 40, .inl (fun _ => 0)))]) [78, 83, 84] (by decide) rfl
  have hFc := va_free (wc := [((r 0), .inr (12, [.int 0, .ref (r 1), .ref (r 2), .ref (r 3), .ref (r 4), .ref (r 5), .int 0, .int 0, .int 0, .int 0, .int 0, .long 0, .int 0, .int 0, .int 0, .int (-1), .ref (r 6), .ref (r 7), .ref (r 8), .ref (r 9), .ref (r 10), .ref (r 11), .ref (r 12), .ref (r 13), .int 0, .int 0, .int 0, .ref (r 14), .ref (r 15), .ref (r 16), .ref (r 17), .ref (r 18), .ref (r 19), .ref (r 20), .ref (r 21), .ref (r 22), .ref (r 23), .ref (r 24), .ref (r 25), .ref (r 26), .ref (r 27), .ref (r 28), .ref (r 29), .int 0, .int 0, .int 0, .ref (r 30), .int 0, .int 0, .int 0, .int 0, .int 0, .int 0, .ref (r 31), .int 0, .int 0, .int 0, .ref (r 32), .ref (r 33)])), ((r 6), .inl ((j 4), 5, .inl (fun _ => 0))), ((r 7), .inl ((j 5), 40, .inl (fun _ => 0)))]) hD hS hA [78, 83, 84] rfl
  refine va_calli (va_runV (As := []) (rest := [.int (-2)]) ⟨hx, hb, hml, hown, hts⟩ (f_X12_anew l dC dI H.size ((r 0)) ((r 1)) ((r 2)) ((r 3)) ((r 4)) ((r 5)) ((r 6)) ((r 7)) ((r 8)) ((r 9)) ((r 10)) ((r 11)) ((r 12)) ((r 13)) ((r 14)) ((r 15)) ((r 16)) ((r 17)) ((r 18)) ((r 19)) ((r 20)) ((r 21)) ((r 22)) ((r 23)) ((r 24)) ((r 25)) ((r 26)) ((r 27)) ((r 28)) ((r 29)) ((r 30)) ((r 31)) ((r 32)) ((r 33)) ((j 4)) ((j 5))) (cwV 0 hts (gk_V tw_1073 tw_1074 tw_1075 tw_505 wki_f_X12_anew wkg_f_X12_anew) rfl rfl rfl (by decide +kernel) ⟨Nat.le_of_ble_eq_true rfl, Nat.le_of_ble_eq_true rfl⟩) ⟨fun a U g mk q => by obtain ⟨q0, q1, qP, qK, qD⟩ := q; exact ⟨q0, q1, qP, va_K.moved (u := U) (U := U.calling g mk a) (Vm.Alike.refl U.vm) qK, qD⟩, va_recv hKc hPc (ci := 12) (q0 := 0) rfl rfl, fun U hU hW => ⟨rfl, by rw [hU], by rw [hU]; exact hPc, va_K.moved hW.alike hKc, hDc.weaken (fun _ _ _ _ => trivial)⟩⟩ rfl rfl hl.1 rfl (lv_room (Nat.le_of_ble_eq_true rfl)) dL_law_1928 ⟨Nat.le_of_ble_eq_true rfl, Nat.le_of_ble_eq_true rfl⟩) hS (fun q _ h => hFc q h) hFc (fun oz4 u t H1 locs ht hvm gz3 hB hz1 hk1 hS => ?_)
  generalize H1 = H at hS ⊢
  refine W.widen (k := 305) (n := 4995) (Nat.le_of_ble_eq_true rfl) (Nat.le_of_ble_eq_true rfl) ?_
  obtain rfl := gz3
  refine lv_icmp_eq (tgt := 2293) hx hb dL_law_1931 (by decide) (fun cz5 => ?_) (fun cz5 => ?_)
  · skip
    exact law_end (dC := dC) (dI := dI) (Nat.le_of_eq hL6) C0 A hAe (q 0) (r 0) H locs hS ls hl
  · skip
    exact absurd cz5 (by decide)
set_option maxHeartbeats 4000000 in
set_option maxRecDepth 100000 in
theorem law_case_63 {p : Program} {l : Launch} {e : Env} {s : State} {m : MethodId} {below : List Frame} {meth : Method} {c : Code} {dC : Nat → ClassId} {dI : Nat → Nat → Nat} {b L : Nat} {xs : Nat → Int32} (hL6 : L = 6) (C0 : lw_At p s m meth c b L xs) (A : Nat → Prop) (hAe : A = fun q => s.heap.size ≤ q) (q r : Nat → Nat) (k j : Nat → ClassId) (H : Heap) (locs : List Loc) (hK : va_K (dC, dI) vwCl (tX k ++ tM j) s) (hP : va_P (dC, dI) vwCl (wX q k ++ wM r j) H) (hD : va_D A (wX q k ++ wM r j)) (hS : va_S A s.heap H locs) (ls : Array Slot) (hl : lv_has ls 4 [(0, .ref b), (1, .ref (q 0)), (2, .ref (r 0)), (3, .int 0)]) : W p l e room_1 s m #[Value.ref b] below meth c H locs 305 4995 (lw_Z below #[Value.ref b] s) (F0 m 1936 ls []) := by
  obtain ⟨hx, hb, hr, hml, hown, hts, hX, hbl, hlocks, hgv⟩ := id C0
  have hown : s.vm.findClass RL = some m.cls := hown
  have hA : ∀ q : Nat, s.heap.size ≤ q → A q := by rw [hAe]; exact fun _ h => h
  have hbA : ¬ A b := by rw [hAe]; exact Nat.not_le.mpr hbl
  refine lv_aload_n hx hb dL_law_1936 rfl (lv_at hl 1 rfl) ?_
  refine lv_aload_n hx hb dL_law_1937 rfl (lv_at hl 0 rfl) ?_
  refine lv_iload_n hx hb dL_law_1938 rfl (lv_at hl 3 rfl) ?_
  refine lv_iconst (v := 1) hx hb dL_law_1939 (by decide) ?_
  refine lv_iadd hx hb dL_law_1940 ?_
  refine lv_topi (fun xz1 exz1 => ?_)
  obtain rfl : xz1 = 1 := exz1.trans (by decide)
  refine va_sld hx hb hX hbl hbA hS (by rw [hL6]; unfold vp_in; decide) dL_law_1941 ?_
  refine W.eq (g2 := F0 m 1942 ls [.int (xs 1), .ref (q 0)]) rfl ?_
  refine lv_aload_n hx hb dL_law_1942 rfl (lv_at hl 0 rfl) ?_
  refine lv_iload_n hx hb dL_law_1943 rfl (lv_at hl 3 rfl) ?_
  refine lv_iconst (v := 2) hx hb dL_law_1944 (by decide) ?_
  refine lv_iadd hx hb dL_law_1945 ?_
  refine lv_topi (fun xz2 exz2 => ?_)
  obtain rfl : xz2 = 2 := exz2.trans (by decide)
  refine va_sld hx hb hX hbl hbA hS (by rw [hL6]; unfold vp_in; decide) dL_law_1946 ?_
  refine W.eq (g2 := F0 m 1947 ls [.int (xs 2), .int (xs 1), .ref (q 0)]) rfl ?_
  have hPc := hP.sub (ws' := [((q 0), .inr (11, [.ref (q 1), .ref (q 2), .ref (q 3), .ref (q 4), .ref (q 5), .ref (q 6), .ref (q 7), .ref (q 8), .ref (q 9), .ref (q 10), .ref (q 11), .ref (q 12), .ref (q 13), .ref (q 14), .ref (q 15)])), ((q 2), .inr (10, [.ref (q 25), .ref (q 26), .ref (q 27), .ref (q 28), .ref (q 29), .ref (q 30), .ref (q 31), .int 0, .int 0, .int 0, .int 0, .int 0, .int 0, .int 0, .int 0, .int 0]))]) [0, 11] rfl
  have hKc := hK.sub (tys' := []) [] rfl
  refine vp_callSi (va_Run.run (va_runV (As := [.int (xs 1), .int (xs 2)]) (rest := []) ⟨hx, hb, hml, hown, hts⟩ (f_X11_drawn l dC dI ((q 0)) ((q 1)) ((q 2)) ((q 3)) ((q 4)) ((q 5)) ((q 6)) ((q 7)) ((q 8)) ((q 9)) ((q 10)) ((q 11)) ((q 12)) ((q 13)) ((q 14)) ((q 15)) ((q 25)) ((q 26)) ((q 27)) ((q 28)) ((q 29)) ((q 30)) ((q 31)) ((xs 1)) ((xs 2))) (cwV 2 hts (gk_V tw_1076 tw_1077 tw_1078 tw_157 wki_f_X11_drawn wkg_f_X11_drawn) rfl rfl rfl (by decide +kernel) ⟨Nat.le_of_ble_eq_true rfl, Nat.le_of_ble_eq_true rfl⟩) ⟨fun a U g mk q => by obtain ⟨q0, qP, qK⟩ := q; exact ⟨q0, qP, va_K.moved (u := U) (U := U.calling g mk a) (Vm.Alike.refl U.vm) qK⟩, va_recv hKc hPc (ci := 11) (q0 := 0) rfl rfl, fun U hU hW => ⟨rfl, by rw [hU]; exact hPc, va_K.moved hW.alike hKc⟩⟩ rfl rfl hl.1 rfl (lv_room (Nat.le_of_ble_eq_true rfl)) dL_law_1947 ⟨Nat.le_of_ble_eq_true rfl, Nat.le_of_ble_eq_true rfl⟩)) (fun oz4 gz3 => ?_)
  obtain rfl := gz3
  refine lv_aload_n hx hb dL_law_1950 rfl (lv_at hl 2 rfl) ?_
  refine lv_aload_n hx hb dL_law_1951 rfl (lv_at hl 0 rfl) ?_
  refine lv_iload_n hx hb dL_law_1952 rfl (lv_at hl 3 rfl) ?_
  refine lv_iconst (v := 1) hx hb dL_law_1953 (by decide) ?_
  refine lv_iadd hx hb dL_law_1954 ?_
  refine lv_topi (fun xz5 exz5 => ?_)
  obtain rfl : xz5 = 1 := exz5.trans (by decide)
  refine va_sld hx hb hX hbl hbA hS (by rw [hL6]; unfold vp_in; decide) dL_law_1955 ?_
  refine W.eq (g2 := F0 m 1956 ls [.int (xs 1), .ref (r 0), .int (-2)]) rfl ?_
  refine lv_aload_n hx hb dL_law_1956 rfl (lv_at hl 0 rfl) ?_
  refine lv_iload_n hx hb dL_law_1957 rfl (lv_at hl 3 rfl) ?_
  refine lv_iconst (v := 2) hx hb dL_law_1958 (by decide) ?_
  refine lv_iadd hx hb dL_law_1959 ?_
  refine lv_topi (fun xz6 exz6 => ?_)
  obtain rfl : xz6 = 2 := exz6.trans (by decide)
  refine va_sld hx hb hX hbl hbA hS (by rw [hL6]; unfold vp_in; decide) dL_law_1960 ?_
  refine W.eq (g2 := F0 m 1961 ls [.int (xs 2), .int (xs 1), .ref (r 0), .int (-2)]) rfl ?_
  have hPc := hP.sub (ws' := [((r 0), .inr (12, [.int 0, .ref (r 1), .ref (r 2), .ref (r 3), .ref (r 4), .ref (r 5), .int 0, .int 0, .int 0, .int 0, .int 0, .long 0, .int 0, .int 0, .int 0, .int (-1), .ref (r 6), .ref (r 7), .ref (r 8), .ref (r 9), .ref (r 10), .ref (r 11), .ref (r 12), .ref (r 13), .int 0, .int 0, .int 0, .ref (r 14), .ref (r 15), .ref (r 16), .ref (r 17), .ref (r 18), .ref (r 19), .ref (r 20), .ref (r 21), .ref (r 22), .ref (r 23), .ref (r 24), .ref (r 25), .ref (r 26), .ref (r 27), .ref (r 28), .ref (r 29), .int 0, .int 0, .int 0, .ref (r 30), .int 0, .int 0, .int 0, .int 0, .int 0, .int 0, .ref (r 31), .int 0, .int 0, .int 0, .ref (r 32), .ref (r 33)])), ((r 6), .inl ((j 4), 5, .inl (fun _ => 0))), ((r 7), .inl ((j 5), 40, .inl (fun _ => 0)))]) [78, 83, 84] rfl
  have hKc := hK.sub (tys' := [((j 4), .int), ((j 5), .int)]) [60, 61] rfl
  have hDc := hD.sub (ws' := [((r 0), .inr (12, [.int 0, .ref (r 1), .ref (r 2), .ref (r 3), .ref (r 4), .ref (r 5), .int 0, .int 0, .int 0, .int 0, .int 0, .long 0, .int 0, .int 0, .int 0, .int (-1), .ref (r 6), .ref (r 7), .ref (r 8), .ref (r 9), .ref (r 10), .ref (r 11), .ref (r 12), .ref (r 13), .int 0, .int 0, .int 0, .ref (r 14), .ref (r 15), .ref (r 16), .ref (r 17), .ref (r 18), .ref (r 19), .ref (r 20), .ref (r 21), .ref (r 22), .ref (r 23), .ref (r 24), .ref (r 25), .ref (r 26), .ref (r 27), .ref (r 28), .ref (r 29), .int 0, .int 0, .int 0, .ref (r 30), .int 0, .int 0, .int 0, .int 0, .int 0, .int 0, .ref (r 31), .int 0, .int 0, .int 0, .ref (r 32), .ref (r 33)])), ((r 6), .inl ((j 4), 5, .inl (fun _ => 0))), ((r 7), .inl ((j 5), 40, .inl (fun _ => 0)))]) [78, 83, 84] (by decide) rfl
  have hFc := va_free (wc := [((r 0), .inr (12, [.int 0, .ref (r 1), .ref (r 2), .ref (r 3), .ref (r 4), .ref (r 5), .int 0, .int 0, .int 0, .int 0, .int 0, .long 0, .int 0, .int 0, .int 0, .int (-1), .ref (r 6), .ref (r 7), .ref (r 8), .ref (r 9), .ref (r 10), .ref (r 11), .ref (r 12), .ref (r 13), .int 0, .int 0, .int 0, .ref (r 14), .ref (r 15), .ref (r 16), .ref (r 17), .ref (r 18), .ref (r 19), .ref (r 20), .ref (r 21), .ref (r 22), .ref (r 23), .ref (r 24), .ref (r 25), .ref (r 26), .ref (r 27), .ref (r 28), .ref (r 29), .int 0, .int 0, .int 0, .ref (r 30), .int 0, .int 0, .int 0, .int 0, .int 0, .int 0, .ref (r 31), .int 0, .int 0, .int 0, .ref (r 32), .ref (r 33)])), ((r 6), .inl ((j 4), 5, .inl (fun _ => 0))), ((r 7), .inl ((j 5), 40, .inl (fun _ => 0)))]) hD hS hA [78, 83, 84] rfl
  refine va_calli (va_runV (As := [.int (xs 1), .int (xs 2)]) (rest := [.int (-2)]) ⟨hx, hb, hml, hown, hts⟩ (f_X12_drawn l dC dI H.size ((r 0)) ((r 1)) ((r 2)) ((r 3)) ((r 4)) ((r 5)) ((r 6)) ((r 7)) ((r 8)) ((r 9)) ((r 10)) ((r 11)) ((r 12)) ((r 13)) ((r 14)) ((r 15)) ((r 16)) ((r 17)) ((r 18)) ((r 19)) ((r 20)) ((r 21)) ((r 22)) ((r 23)) ((r 24)) ((r 25)) ((r 26)) ((r 27)) ((r 28)) ((r 29)) ((r 30)) ((r 31)) ((r 32)) ((r 33)) ((j 4)) ((j 5)) ((xs 1)) ((xs 2))) (cwV 2 hts (gk_V tw_1079 tw_1080 tw_1081 tw_505 wki_f_X12_drawn wkg_f_X12_drawn) rfl rfl rfl (by decide +kernel) ⟨Nat.le_of_ble_eq_true rfl, Nat.le_of_ble_eq_true rfl⟩) ⟨fun a U g mk q => by obtain ⟨q0, q1, qP, qK, qD⟩ := q; exact ⟨q0, q1, qP, va_K.moved (u := U) (U := U.calling g mk a) (Vm.Alike.refl U.vm) qK, qD⟩, va_recv hKc hPc (ci := 12) (q0 := 0) rfl rfl, fun U hU hW => ⟨rfl, by rw [hU], by rw [hU]; exact hPc, va_K.moved hW.alike hKc, hDc.weaken (fun _ _ _ _ => trivial)⟩⟩ rfl rfl hl.1 rfl (lv_room (Nat.le_of_ble_eq_true rfl)) dL_law_1961 ⟨Nat.le_of_ble_eq_true rfl, Nat.le_of_ble_eq_true rfl⟩) hS (fun q _ h => hFc q h) hFc (fun oz8 u t H1 locs ht hvm gz7 hB hz1 hk1 hS => ?_)
  generalize H1 = H at hS ⊢
  refine W.widen (k := 305) (n := 4995) (Nat.le_of_ble_eq_true rfl) (Nat.le_of_ble_eq_true rfl) ?_
  obtain rfl := gz7
  refine lv_icmp_eq (tgt := 2293) hx hb dL_law_1964 (by decide) (fun cz9 => ?_) (fun cz9 => ?_)
  · skip
    exact law_end (dC := dC) (dI := dI) (Nat.le_of_eq hL6) C0 A hAe (q 0) (r 0) H locs hS ls hl
  · skip
    exact absurd cz9 (by decide)
