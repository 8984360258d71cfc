set_option maxHeartbeats 4000000 in
set_option maxRecDepth 100000 in
theorem law_case_0 {p : Program} {l : Launch} {e : Env} {s : State} {m : MethodId} {below : List Frame} {meth : Method} {c : Code} {dC : Nat → ClassId} {dI : Nat → Nat → Nat} {b L : Nat} {xs : Nat → Int32} (hL6 : L = 6) (C0 : lw_At p s m meth c b L xs) (A : Nat → Prop) (hAe : A = fun q => s.heap.size ≤ q) (q r : Nat → Nat) (k j : Nat → ClassId) (H : Heap) (locs : List Loc) (hK : va_K (dC, dI) vwCl (tX k ++ tM j) s) (hP : va_P (dC, dI) vwCl (wX q k ++ wM r j) H) (hD : va_D A (wX q k ++ wM r j)) (hS : va_S A s.heap H locs) (ls : Array Slot) (hl : lv_has ls 4 [(0, .ref b), (1, .ref (q 0)), (2, .ref (r 0)), (3, .int 0)]) : W p l e room_1 s m #[Value.ref b] below meth c H locs 305 4995 (lw_Z below #[Value.ref b] s) (F0 m 336 ls []) := by
  obtain ⟨hx, hb, hr, hml, hown, hts, hX, hbl, hlocks, hgv⟩ := id C0
  have hown : s.vm.findClass RL = some m.cls := hown
  have hA : ∀ q : Nat, s.heap.size ≤ q → A q := by rw [hAe]; exact fun _ h => h
  have hbA : ¬ A b := by rw [hAe]; exact Nat.not_le.mpr hbl
  refine lv_aload_n hx hb dL_law_336 rfl (lv_at hl 1 rfl) ?_
  refine lv_aload_n hx hb dL_law_337 rfl (lv_at hl 0 rfl) ?_
  refine lv_iload_n hx hb dL_law_338 rfl (lv_at hl 3 rfl) ?_
  refine lv_iconst (v := 1) hx hb dL_law_339 (by decide) ?_
  refine lv_iadd hx hb dL_law_340 ?_
  refine lv_topi (fun xz1 exz1 => ?_)
  obtain rfl : xz1 = 1 := exz1.trans (by decide)
  refine va_sld hx hb hX hbl hbA hS (by rw [hL6]; unfold vp_in; decide) dL_law_341 ?_
  refine W.eq (g2 := F0 m 342 ls [.int (xs 1), .ref (q 0)]) rfl ?_
  refine lv_aload_n hx hb dL_law_342 rfl (lv_at hl 0 rfl) ?_
  refine lv_iload_n hx hb dL_law_343 rfl (lv_at hl 3 rfl) ?_
  refine lv_iconst (v := 2) hx hb dL_law_344 (by decide) ?_
  refine lv_iadd hx hb dL_law_345 ?_
  refine lv_topi (fun xz2 exz2 => ?_)
  obtain rfl : xz2 = 2 := exz2.trans (by decide)
  refine va_sld hx hb hX hbl hbA hS (by rw [hL6]; unfold vp_in; decide) dL_law_346 ?_
  refine W.eq (g2 := F0 m 347 ls [.int (xs 2), .int (xs 1), .ref (q 0)]) rfl ?_
  refine lv_aload_n hx hb dL_law_347 rfl (lv_at hl 0 rfl) ?_
  refine lv_iload_n hx hb dL_law_348 rfl (lv_at hl 3 rfl) ?_
  refine lv_iconst (v := 3) hx hb dL_law_349 (by decide) ?_
  refine lv_iadd hx hb dL_law_350 ?_
  refine lv_topi (fun xz3 exz3 => ?_)
  obtain rfl : xz3 = 3 := exz3.trans (by decide)
  refine va_sld hx hb hX hbl hbA hS (by rw [hL6]; unfold vp_in; decide) dL_law_351 ?_
  refine W.eq (g2 := F0 m 352 ls [.int (xs 3), .int (xs 2), .int (xs 1), .ref (q 0)]) rfl ?_
  refine lv_aload_n hx hb dL_law_352 rfl (lv_at hl 0 rfl) ?_
  refine lv_iload_n hx hb dL_law_353 rfl (lv_at hl 3 rfl) ?_
  refine lv_iconst (v := 4) hx hb dL_law_354 (by decide) ?_
  refine lv_iadd hx hb dL_law_355 ?_
  refine lv_topi (fun xz4 exz4 => ?_)
  obtain rfl : xz4 = 4 := exz4.trans (by decide)
  refine va_sld hx hb hX hbl hbA hS (by rw [hL6]; unfold vp_in; decide) dL_law_356 ?_
  refine W.eq (g2 := F0 m 357 ls [.int (xs 4), .int (xs 3), .int (xs 2), .int (xs 1), .ref (q 0)]) rfl ?_
  refine lv_aload_n hx hb dL_law_357 rfl (lv_at hl 0 rfl) ?_
  refine lv_iload_n hx hb dL_law_358 rfl (lv_at hl 3 rfl) ?_
  refine lv_iconst (v := 5) hx hb dL_law_359 (by decide) ?_
  refine lv_iadd hx hb dL_law_360 ?_
  refine lv_topi (fun xz5 exz5 => ?_)
  obtain rfl : xz5 = 5 := exz5.trans (by decide)
  refine va_sld hx hb hX hbl hbA hS (by rw [hL6]; unfold vp_in; decide) dL_law_361 ?_
  refine W.eq (g2 := F0 m 362 ls [.int (xs 5), .int (xs 4), .int (xs 3), .int (xs 2), .int (xs 1), .ref (q 0)]) rfl ?_
  have hPc := hP.sub (ws' := [((q 0), .inr (11, [.ref (q 1), .ref (q 2), .ref (q 3), .ref (q 4), .ref (q 5), .ref (q 6), .ref (q 7), .ref (q 8), .ref (q 9), .ref (q 10), .ref (q 11), .ref (q 12), .ref (q 13), .ref (q 14), .ref (q 15)])), ((q 1), .inr (9, [.ref (q 16), .ref (q 17), .int 0, .int 0, .int (-1), .int 0, .int 0, .int 0, .int 0, .int 0])), ((q 16), .inl ((k 0), 700, .inl (fun _ => 0)))]) [0, 1, 2] rfl
  have hKc := hK.sub (tys' := [((k 0), .int)]) [0] rfl
  have hDc := hD.sub (ws' := [((q 0), .inr (11, [.ref (q 1), .ref (q 2), .ref (q 3), .ref (q 4), .ref (q 5), .ref (q 6), .ref (q 7), .ref (q 8), .ref (q 9), .ref (q 10), .ref (q 11), .ref (q 12), .ref (q 13), .ref (q 14), .ref (q 15)])), ((q 1), .inr (9, [.ref (q 16), .ref (q 17), .int 0, .int 0, .int (-1), .int 0, .int 0, .int 0, .int 0, .int 0])), ((q 16), .inl ((k 0), 700, .inl (fun _ => 0)))]) [0, 1, 2] (by decide) rfl
  have hFc := va_free (wc := [((q 0), .inr (11, [.ref (q 1), .ref (q 2), .ref (q 3), .ref (q 4), .ref (q 5), .ref (q 6), .ref (q 7), .ref (q 8), .ref (q 9), .ref (q 10), .ref (q 11), .ref (q 12), .ref (q 13), .ref (q 14), .ref (q 15)])), ((q 1), .inr (9, [.ref (q 16), .ref (q 17), .int 0, .int 0, .int (-1), .int 0, .int 0, .int 0, .int 0, .int 0])), ((q 16), .inl ((k 0), 700, .inl (fun _ => 0)))]) hD hS hA [0, 1, 2] rfl
  refine va_calli (va_runV (As := [.int (xs 1), .int (xs 2), .int (xs 3), .int (xs 4), .int (xs 5)]) (rest := []) ⟨hx, hb, hml, hown, hts⟩ (f_X11_feed l dC dI H.size ((q 0)) ((q 1)) ((q 2)) ((q 3)) ((q 4)) ((q 5)) ((q 6)) ((q 7)) ((q 8)) ((q 9)) ((q 10)) ((q 11)) ((q 12)) ((q 13)) ((q 14)) ((q 15)) ((q 16)) ((q 17)) ((k 0)) ((fun _ => 0)) ((xs 1)) ((xs 2)) ((xs 3)) ((xs 4)) ((xs 5))) (cwV 5 hts (gk_V tw_698 tw_699 tw_700 tw_157 wki_f_X11_feed wkg_f_X11_feed) rfl rfl rfl (by decide +kernel) ⟨Nat.le_of_ble_eq_true rfl, Nat.le_of_ble_eq_true rfl⟩) ⟨fun a U g mk q => by obtain ⟨q0, q1, qP, qK, qD⟩ := q; exact ⟨q0, q1, qP, va_K.moved (u := U) (U := U.calling g mk a) (Vm.Alike.refl U.vm) qK, qD⟩, va_recv hKc hPc (ci := 11) (q0 := 0) rfl rfl, fun U hU hW => ⟨rfl, by rw [hU], by rw [hU]; exact hPc, va_K.moved hW.alike hKc, hDc.weaken (fun _ _ _ _ => trivial)⟩⟩ rfl rfl hl.1 rfl (lv_room (Nat.le_of_ble_eq_true rfl)) dL_law_362 ⟨Nat.le_of_ble_eq_true rfl, Nat.le_of_ble_eq_true rfl⟩) hS (fun q _ h => hFc q h) hFc (fun oz7 u t H1 locs ht hvm gz6 hB hz1 hk1 hS => ?_)
  have hP1 : va_P (dC, dI) vwCl [] H1 := fun k q h => by simp at h
  have hD1 : va_D (va_A [((q 0), .inr (11, [.ref (q 1), .ref (q 2), .ref (q 3), .ref (q 4), .ref (q 5), .ref (q 6), .ref (q 7), .ref (q 8), .ref (q 9), .ref (q 10), .ref (q 11), .ref (q 12), .ref (q 13), .ref (q 14), .ref (q 15)])), ((q 1), .inr (9, [.ref (q 16), .ref (q 17), .int 0, .int 0, .int (-1), .int 0, .int 0, .int 0, .int 0, .int 0])), ((q 16), .inl ((k 0), 700, .inl (fun _ => 0)))] H.size) [] := ⟨fun i j p q h => by simp at h, fun k q h => by simp at h⟩
  obtain ⟨hP, hD⟩ := va_join (wr := wM r j) (w1 := []) hP hD [0, 1, 2] [78, 79, 80, 81, 82, 83, 84, 85, 86, 87, 88, 89, 90] rfl rfl (by decide) (by decide) hk1 hFc hP1 hD1
  have hK := hK.sub (tys' := tM j) [56, 57, 58, 59, 60, 61, 62, 63, 64, 65, 66, 67] rfl
  clear hPc hKc hDc hFc hk1 hB hP1 hD1 hz1
  generalize H1 = H at hP hS ⊢
  have hP : va_P (dC, dI) vwCl (wM r j) H := hP
  have hD : va_D A (wM r j) := hD
  refine W.widen (k := 305) (n := 4995) (Nat.le_of_ble_eq_true rfl) (Nat.le_of_ble_eq_true rfl) ?_
  obtain rfl := gz6
  refine lv_aload_n hx hb dL_law_365 rfl (lv_at hl 2 rfl) ?_
  refine lv_aload_n hx hb dL_law_366 rfl (lv_at hl 0 rfl) ?_
  refine lv_iload_n hx hb dL_law_367 rfl (lv_at hl 3 rfl) ?_
  refine lv_iconst (v := 1) hx hb dL_law_368 (by decide) ?_
  refine lv_iadd hx hb dL_law_369 ?_
  refine lv_topi (fun xz8 exz8 => ?_)
  obtain rfl : xz8 = 1 := exz8.trans (by decide)
  refine va_sld hx hb hX hbl hbA hS (by rw [hL6]; unfold vp_in; decide) dL_law_370 ?_
  refine W.eq (g2 := F0 m 371 ls [.int (xs 1), .ref (r 0), .int 20]) rfl ?_
  refine lv_aload_n hx hb dL_law_371 rfl (lv_at hl 0 rfl) ?_
  refine lv_iload_n hx hb dL_law_372 rfl (lv_at hl 3 rfl) ?_
  refine lv_iconst (v := 2) hx hb dL_law_373 (by decide) ?_
  refine lv_iadd hx hb dL_law_374 ?_
  refine lv_topi (fun xz9 exz9 => ?_)
  obtain rfl : xz9 = 2 := exz9.trans (by decide)
  refine va_sld hx hb hX hbl hbA hS (by rw [hL6]; unfold vp_in; decide) dL_law_375 ?_
  refine W.eq (g2 := F0 m 376 ls [.int (xs 2), .int (xs 1), .ref (r 0), .int 20]) rfl ?_
  refine lv_aload_n hx hb dL_law_376 rfl (lv_at hl 0 rfl) ?_
  refine lv_iload_n hx hb dL_law_377 rfl (lv_at hl 3 rfl) ?_
  refine lv_iconst (v := 3) hx hb dL_law_378 (by decide) ?_
  refine lv_iadd hx hb dL_law_379 ?_
  refine lv_topi (fun xz10 exz10 => ?_)
  obtain rfl : xz10 = 3 := exz10.trans (by decide)
  refine va_sld hx hb hX hbl hbA hS (by rw [hL6]; unfold vp_in; decide) dL_law_380 ?_
  refine W.eq (g2 := F0 m 381 ls [.int (xs 3), .int (xs 2), .int (xs 1), .ref (r 0), .int 20]) rfl ?_
  refine lv_aload_n hx hb dL_law_381 rfl (lv_at hl 0 rfl) ?_
  refine lv_iload_n hx hb dL_law_382 rfl (lv_at hl 3 rfl) ?_
  refine lv_iconst (v := 4) hx hb dL_law_383 (by decide) ?_
  refine lv_iadd hx hb dL_law_384 ?_
  refine lv_topi (fun xz11 exz11 => ?_)
  obtain rfl : xz11 = 4 := exz11.trans (by decide)
  refine va_sld hx hb hX hbl hbA hS (by rw [hL6]; unfold vp_in; decide) dL_law_385 ?_
  refine W.eq (g2 := F0 m 386 ls [.int (xs 4), .int (xs 3), .int (xs 2), .int (xs 1), .ref (r 0), .int 20]) rfl ?_
  refine lv_aload_n hx hb dL_law_386 rfl (lv_at hl 0 rfl) ?_
  refine lv_iload_n hx hb dL_law_387 rfl (lv_at hl 3 rfl) ?_
  refine lv_iconst (v := 5) hx hb dL_law_388 (by decide) ?_
  refine lv_iadd hx hb dL_law_389 ?_
  refine lv_topi (fun xz12 exz12 => ?_)
  obtain rfl : xz12 = 5 := exz12.trans (by decide)
  refine va_sld hx hb hX hbl hbA hS (by rw [hL6]; unfold vp_in; decide) dL_law_390 ?_
  refine W.eq (g2 := F0 m 391 ls [.int (xs 5), .int (xs 4), .int (xs 3), .int (xs 2), .int (xs 1), .ref (r 0), .int 20]) rfl ?_
  have hPc := hP.sub (ws' := [((r 0), .inr (12, [.int 0, .ref (r 1), .ref (r 2), .ref (r 3), .ref (r 4), .ref (r 5), .int 0, .int 0, .int 0, .int 0, .int 0, .long 0, .int 0, .int 0, .int 0, .int (-1), .ref (r 6), .ref (r 7), .ref (r 8), .ref (r 9), .ref (r 10), .ref (r 11), .ref (r 12), .ref (r 13), .int 0, .int 0, .int 0, .ref (r 14), .ref (r 15), .ref (r 16), .ref (r 17), .ref (r 18), .ref (r 19), .ref (r 20), .ref (r 21), .ref (r 22), .ref (r 23), .ref (r 24), .ref (r 25), .ref (r 26), .ref (r 27), .ref (r 28), .ref (r 29), .int 0, .int 0, .int 0, .ref (r 30), .int 0, .int 0, .int 0, .int 0, .int 0, .int 0, .ref (r 31), .int 0, .int 0, .int 0, .ref (r 32), .ref (r 33)])), ((r 5), .inl ((j 3), 700, .inl (fun _ => 0)))]) [0, 4] rfl
  have hKc := hK.sub (tys' := [((j 3), .byte)]) [3] rfl
  have hDc := hD.sub (ws' := [((r 0), .inr (12, [.int 0, .ref (r 1), .ref (r 2), .ref (r 3), .ref (r 4), .ref (r 5), .int 0, .int 0, .int 0, .int 0, .int 0, .long 0, .int 0, .int 0, .int 0, .int (-1), .ref (r 6), .ref (r 7), .ref (r 8), .ref (r 9), .ref (r 10), .ref (r 11), .ref (r 12), .ref (r 13), .int 0, .int 0, .int 0, .ref (r 14), .ref (r 15), .ref (r 16), .ref (r 17), .ref (r 18), .ref (r 19), .ref (r 20), .ref (r 21), .ref (r 22), .ref (r 23), .ref (r 24), .ref (r 25), .ref (r 26), .ref (r 27), .ref (r 28), .ref (r 29), .int 0, .int 0, .int 0, .ref (r 30), .int 0, .int 0, .int 0, .int 0, .int 0, .int 0, .ref (r 31), .int 0, .int 0, .int 0, .ref (r 32), .ref (r 33)])), ((r 5), .inl ((j 3), 700, .inl (fun _ => 0)))]) [0, 4] (by decide) rfl
  have hFc := va_free (wc := [((r 0), .inr (12, [.int 0, .ref (r 1), .ref (r 2), .ref (r 3), .ref (r 4), .ref (r 5), .int 0, .int 0, .int 0, .int 0, .int 0, .long 0, .int 0, .int 0, .int 0, .int (-1), .ref (r 6), .ref (r 7), .ref (r 8), .ref (r 9), .ref (r 10), .ref (r 11), .ref (r 12), .ref (r 13), .int 0, .int 0, .int 0, .ref (r 14), .ref (r 15), .ref (r 16), .ref (r 17), .ref (r 18), .ref (r 19), .ref (r 20), .ref (r 21), .ref (r 22), .ref (r 23), .ref (r 24), .ref (r 25), .ref (r 26), .ref (r 27), .ref (r 28), .ref (r 29), .int 0, .int 0, .int 0, .ref (r 30), .int 0, .int 0, .int 0, .int 0, .int 0, .int 0, .ref (r 31), .int 0, .int 0, .int 0, .ref (r 32), .ref (r 33)])), ((r 5), .inl ((j 3), 700, .inl (fun _ => 0)))]) hD hS hA [0, 4] rfl
  refine va_calli (va_runV (As := [.int (xs 1), .int (xs 2), .int (xs 3), .int (xs 4), .int (xs 5)]) (rest := [.int 20]) ⟨hx, hb, hml, hown, hts⟩ (f_X12_feed l dC dI H.size ((r 0)) ((r 1)) ((r 2)) ((r 3)) ((r 4)) ((r 5)) ((r 6)) ((r 7)) ((r 8)) ((r 9)) ((r 10)) ((r 11)) ((r 12)) ((r 13)) ((r 14)) ((r 15)) ((r 16)) ((r 17)) ((r 18)) ((r 19)) ((r 20)) ((r 21)) ((r 22)) ((r 23)) ((r 24)) ((r 25)) ((r 26)) ((r 27)) ((r 28)) ((r 29)) ((r 30)) ((r 31)) ((r 32)) ((r 33)) ((j 3)) ((xs 1)) ((xs 2)) ((xs 3)) ((xs 4)) ((xs 5))) (cwV 5 hts (gk_V tw_701 tw_702 tw_703 tw_505 wki_f_X12_feed wkg_f_X12_feed) rfl rfl rfl (by decide +kernel) ⟨Nat.le_of_ble_eq_true rfl, Nat.le_of_ble_eq_true rfl⟩) ⟨fun a U g mk q => by obtain ⟨q0, q1, qP, qK, qD⟩ := q; exact ⟨q0, q1, qP, va_K.moved (u := U) (U := U.calling g mk a) (Vm.Alike.refl U.vm) qK, qD⟩, va_recv hKc hPc (ci := 12) (q0 := 0) rfl rfl, fun U hU hW => ⟨rfl, by rw [hU], by rw [hU]; exact hPc, va_K.moved hW.alike hKc, hDc.weaken (fun _ _ _ _ => trivial)⟩⟩ rfl rfl hl.1 rfl (lv_room (Nat.le_of_ble_eq_true rfl)) dL_law_391 ⟨Nat.le_of_ble_eq_true rfl, Nat.le_of_ble_eq_true rfl⟩) hS (fun q _ h => hFc q h) hFc (fun oz14 u t H1 locs ht hvm gz13 hB hz1 hk1 hS => ?_)
  generalize H1 = H at hS ⊢
  refine W.widen (k := 305) (n := 4995) (Nat.le_of_ble_eq_true rfl) (Nat.le_of_ble_eq_true rfl) ?_
  obtain rfl := gz13
  refine lv_icmp_eq (tgt := 2293) hx hb dL_law_394 (by decide) (fun cz15 => ?_) (fun cz15 => ?_)
  · skip
    exact law_end (dC := dC) (dI := dI) (Nat.le_of_eq hL6) C0 A hAe (q 0) (r 0) H locs hS ls hl
  · skip
    exact absurd cz15 (by decide)
set_option maxHeartbeats 4000000 in
set_option maxRecDepth 100000 in
theorem law_case_1 {p : Program} {l : Launch} {e : Env} {s : State} {m : MethodId} {below : List Frame} {meth : Method} {c : Code} {dC : Nat → ClassId} {dI : Nat → Nat → Nat} {b L : Nat} {xs : Nat → Int32} (hL6 : L = 6) (C0 : lw_At p s m meth c b L xs) (A : Nat → Prop) (hAe : A = fun q => s.heap.size ≤ q) (q r : Nat → Nat) (k j : Nat → ClassId) (H : Heap) (locs : List Loc) (hK : va_K (dC, dI) vwCl (tX k ++ tM j) s) (hP : va_P (dC, dI) vwCl (wX q k ++ wM r j) H) (hD : va_D A (wX q k ++ wM r j)) (hS : va_S A s.heap H locs) (ls : Array Slot) (hl : lv_has ls 4 [(0, .ref b), (1, .ref (q 0)), (2, .ref (r 0)), (3, .int 0)]) : W p l e room_1 s m #[Value.ref b] below meth c H locs 305 4995 (lw_Z below #[Value.ref b] s) (F0 m 399 ls []) := by
  obtain ⟨hx, hb, hr, hml, hown, hts, hX, hbl, hlocks, hgv⟩ := id C0
  have hown : s.vm.findClass RL = some m.cls := hown
  have hA : ∀ q : Nat, s.heap.size ≤ q → A q := by rw [hAe]; exact fun _ h => h
  have hbA : ¬ A b := by rw [hAe]; exact Nat.not_le.mpr hbl
  refine lv_aload_n hx hb dL_law_399 rfl (lv_at hl 1 rfl) ?_
  refine lv_aload_n hx hb dL_law_400 rfl (lv_at hl 0 rfl) ?_
  refine lv_iload_n hx hb dL_law_401 rfl (lv_at hl 3 rfl) ?_
  refine lv_iconst (v := 1) hx hb dL_law_402 (by decide) ?_
  refine lv_iadd hx hb dL_law_403 ?_
  refine lv_topi (fun xz1 exz1 => ?_)
  obtain rfl : xz1 = 1 := exz1.trans (by decide)
  refine va_sld hx hb hX hbl hbA hS (by rw [hL6]; unfold vp_in; decide) dL_law_404 ?_
  refine W.eq (g2 := F0 m 405 ls [.int (xs 1), .ref (q 0)]) rfl ?_
  have hPc := hP.sub (ws' := [((q 0), .inr (11, [.ref (q 1), .ref (q 2), .ref (q 3), .ref (q 4), .ref (q 5), .ref (q 6), .ref (q 7), .ref (q 8), .ref (q 9), .ref (q 10), .ref (q 11), .ref (q 12), .ref (q 13), .ref (q 14), .ref (q 15)])), ((q 1), .inr (9, [.ref (q 16), .ref (q 17), .int 0, .int 0, .int (-1), .int 0, .int 0, .int 0, .int 0, .int 0]))]) [0, 1] rfl
  have hKc := hK.sub (tys' := []) [] rfl
  have hDc := hD.sub (ws' := [((q 0), .inr (11, [.ref (q 1), .ref (q 2), .ref (q 3), .ref (q 4), .ref (q 5), .ref (q 6), .ref (q 7), .ref (q 8), .ref (q 9), .ref (q 10), .ref (q 11), .ref (q 12), .ref (q 13), .ref (q 14), .ref (q 15)])), ((q 1), .inr (9, [.ref (q 16), .ref (q 17), .int 0, .int 0, .int (-1), .int 0, .int 0, .int 0, .int 0, .int 0]))]) [0, 1] (by decide) rfl
  have hFc := va_free (wc := [((q 0), .inr (11, [.ref (q 1), .ref (q 2), .ref (q 3), .ref (q 4), .ref (q 5), .ref (q 6), .ref (q 7), .ref (q 8), .ref (q 9), .ref (q 10), .ref (q 11), .ref (q 12), .ref (q 13), .ref (q 14), .ref (q 15)])), ((q 1), .inr (9, [.ref (q 16), .ref (q 17), .int 0, .int 0, .int (-1), .int 0, .int 0, .int 0, .int 0, .int 0]))]) hD hS hA [0, 1] rfl
  refine va_calli (va_runV (As := [.int (xs 1)]) (rest := []) ⟨hx, hb, hml, hown, hts⟩ (f_X11_end l dC dI H.size ((q 0)) ((q 1)) ((q 2)) ((q 3)) ((q 4)) ((q 5)) ((q 6)) ((q 7)) ((q 8)) ((q 9)) ((q 10)) ((q 11)) ((q 12)) ((q 13)) ((q 14)) ((q 15)) ((q 16)) ((q 17)) ((xs 1))) (cwV 1 hts (gk_V tw_704 tw_705 tw_706 tw_157 wki_f_X11_end wkg_f_X11_end) rfl rfl rfl (by decide +kernel) ⟨Nat.le_of_ble_eq_true rfl, Nat.le_of_ble_eq_true rfl⟩) ⟨fun a U g mk q => by obtain ⟨q0, q1, qP, qK, qD⟩ := q; exact ⟨q0, q1, qP, va_K.moved (u := U) (U := U.calling g mk a) (Vm.Alike.refl U.vm) qK, qD⟩, va_recv hKc hPc (ci := 11) (q0 := 0) rfl rfl, fun U hU hW => ⟨rfl, by rw [hU], by rw [hU]; exact hPc, va_K.moved hW.alike hKc, hDc.weaken (fun _ _ _ _ => trivial)⟩⟩ rfl rfl hl.1 rfl (lv_room (Nat.le_of_ble_eq_true rfl)) dL_law_405 ⟨Nat.le_of_ble_eq_true rfl, Nat.le_of_ble_eq_true rfl⟩) hS (fun q _ h => hFc q h) hFc (fun oz3 u t H1 locs ht hvm gz2 hB hz1 hk1 hS => ?_)
  have hP1 : va_P (dC, dI) vwCl [] H1 := fun k q h => by simp at h
  have hD1 : va_D (va_A [((q 0), .inr (11, [.ref (q 1), .ref (q 2), .ref (q 3), .ref (q 4), .ref (q 5), .ref (q 6), .ref (q 7), .ref (q 8), .ref (q 9), .ref (q 10), .ref (q 11), .ref (q 12), .ref (q 13), .ref (q 14), .ref (q 15)])), ((q 1), .inr (9, [.ref (q 16), .ref (q 17), .int 0, .int 0, .int (-1), .int 0, .int 0, .int 0, .int 0, .int 0]))] H.size) [] := ⟨fun i j p q h => by simp at h, fun k q h => by simp at h⟩
  obtain ⟨hP, hD⟩ := va_join (wr := wM r j) (w1 := []) hP hD [0, 1] [78, 79, 80, 81, 82, 83, 84, 85, 86, 87, 88, 89, 90] rfl rfl (by decide) (by decide) hk1 hFc hP1 hD1
  have hK := hK.sub (tys' := tM j) [56, 57, 58, 59, 60, 61, 62, 63, 64, 65, 66, 67] rfl
  clear hPc hKc hDc hFc hk1 hB hP1 hD1 hz1
  generalize H1 = H at hP hS ⊢
  have hP : va_P (dC, dI) vwCl (wM r j) H := hP
  have hD : va_D A (wM r j) := hD
  refine W.widen (k := 305) (n := 4995) (Nat.le_of_ble_eq_true rfl) (Nat.le_of_ble_eq_true rfl) ?_
  rcases gz2 with ⟨rfl, cz4⟩ | ⟨rfl, cz5, cz6⟩ | ⟨rfl, cz7, cz8⟩
  · skip
    refine lv_aload_n hx hb dL_law_408 rfl (lv_at hl 2 rfl) ?_
    refine lv_aload_n hx hb dL_law_409 rfl (lv_at hl 0 rfl) ?_
    refine lv_iload_n hx hb dL_law_410 rfl (lv_at hl 3 rfl) ?_
    refine lv_iconst (v := 1) hx hb dL_law_411 (by decide) ?_
    refine lv_iadd hx hb dL_law_412 ?_
    refine lv_topi (fun xz9 exz9 => ?_)
    obtain rfl : xz9 = 1 := exz9.trans (by decide)
    refine va_sld hx hb hX hbl hbA hS (by rw [hL6]; unfold vp_in; decide) dL_law_413 ?_
    refine W.eq (g2 := F0 m 414 ls [.int (xs 1), .ref (r 0), .int (-1)]) rfl ?_
    have hPc := hP.sub (ws' := [((r 0), .inr (12, [.int 0, .ref (r 1), .ref (r 2), .ref (r 3), .ref (r 4), .ref (r 5), .int 0, .int 0, .int 0, .int 0, .int 0, .long 0, .int 0, .int 0, .int 0, .int (-1), .ref (r 6), .ref (r 7), .ref (r 8), .ref (r 9), .ref (r 10), .ref (r 11), .ref (r 12), .ref (r 13), .int 0, .int 0, .int 0, .ref (r 14), .ref (r 15), .ref (r 16), .ref (r 17), .ref (r 18), .ref (r 19), .ref (r 20), .ref (r 21), .ref (r 22), .ref (r 23), .ref (r 24), .ref (r 25), .ref (r 26), .ref (r 27), .ref (r 28), .ref (r 29), .int 0, .int 0, .int 0, .ref (r 30), .int 0, .int 0, .int 0, .int 0, .int 0, .int 0, .ref (r 31), .int 0, .int 0, .int 0, .ref (r 32), .ref (r 33)]))]) [0] rfl
    have hKc := hK.sub (tys' := []) [] rfl
    have hDc := hD.sub (ws' := [((r 0), .inr (12, [.int 0, .ref (r 1), .ref (r 2), .ref (r 3), .ref (r 4), .ref (r 5), .int 0, .int 0, .int 0, .int 0, .int 0, .long 0, .int 0, .int 0, .int 0, .int (-1), .ref (r 6), .ref (r 7), .ref (r 8), .ref (r 9), .ref (r 10), .ref (r 11), .ref (r 12), .ref (r 13), .int 0, .int 0, .int 0, .ref (r 14), .ref (r 15), .ref (r 16), .ref (r 17), .ref (r 18), .ref (r 19), .ref (r 20), .ref (r 21), .ref (r 22), .ref (r 23), .ref (r 24), .ref (r 25), .ref (r 26), .ref (r 27), .ref (r 28), .ref (r 29), .int 0, .int 0, .int 0, .ref (r 30), .int 0, .int 0, .int 0, .int 0, .int 0, .int 0, .ref (r 31), .int 0, .int 0, .int 0, .ref (r 32), .ref (r 33)]))]) [0] (by decide) rfl
    have hFc := va_free (wc := [((r 0), .inr (12, [.int 0, .ref (r 1), .ref (r 2), .ref (r 3), .ref (r 4), .ref (r 5), .int 0, .int 0, .int 0, .int 0, .int 0, .long 0, .int 0, .int 0, .int 0, .int (-1), .ref (r 6), .ref (r 7), .ref (r 8), .ref (r 9), .ref (r 10), .ref (r 11), .ref (r 12), .ref (r 13), .int 0, .int 0, .int 0, .ref (r 14), .ref (r 15), .ref (r 16), .ref (r 17), .ref (r 18), .ref (r 19), .ref (r 20), .ref (r 21), .ref (r 22), .ref (r 23), .ref (r 24), .ref (r 25), .ref (r 26), .ref (r 27), .ref (r 28), .ref (r 29), .int 0, .int 0, .int 0, .ref (r 30), .int 0, .int 0, .int 0, .int 0, .int 0, .int 0, .ref (r 31), .int 0, .int 0, .int 0, .ref (r 32), .ref (r 33)]))]) hD hS hA [0] rfl
    refine va_calli (va_runV (As := [.int (xs 1)]) (rest := [.int (-1)]) ⟨hx, hb, hml, hown, hts⟩ (f_X12_end l dC dI H.size ((r 0)) ((r 1)) ((r 2)) ((r 3)) ((r 4)) ((r 5)) ((r 6)) ((r 7)) ((r 8)) ((r 9)) ((r 10)) ((r 11)) ((r 12)) ((r 13)) ((r 14)) ((r 15)) ((r 16)) ((r 17)) ((r 18)) ((r 19)) ((r 20)) ((r 21)) ((r 22)) ((r 23)) ((r 24)) ((r 25)) ((r 26)) ((r 27)) ((r 28)) ((r 29)) ((r 30)) ((r 31)) ((r 32)) ((r 33)) ((xs 1))) (cwV 1 hts (gk_V tw_707 tw_708 tw_709 tw_505 wki_f_X12_end wkg_f_X12_end) rfl rfl rfl (by decide +kernel) ⟨Nat.le_of_ble_eq_true rfl, Nat.le_of_ble_eq_true rfl⟩) ⟨fun a U g mk q => by obtain ⟨q0, q1, qP, qK, qD⟩ := q; exact ⟨q0, q1, qP, va_K.moved (u := U) (U := U.calling g mk a) (Vm.Alike.refl U.vm) qK, qD⟩, va_recv hKc hPc (ci := 12) (q0 := 0) rfl rfl, fun U hU hW => ⟨rfl, by rw [hU], by rw [hU]; exact hPc, va_K.moved hW.alike hKc, hDc.weaken (fun _ _ _ _ => trivial)⟩⟩ rfl rfl hl.1 rfl (lv_room (Nat.le_of_ble_eq_true rfl)) dL_law_414 ⟨Nat.le_of_ble_eq_true rfl, Nat.le_of_ble_eq_true rfl⟩) hS (fun q _ h => hFc q h) hFc (fun oz11 u t H1 locs ht hvm gz10 hB hz1 hk1 hS => ?_)
    generalize H1 = H at hS ⊢
    refine W.widen (k := 305) (n := 4995) (Nat.le_of_ble_eq_true rfl) (Nat.le_of_ble_eq_true rfl) ?_
    rcases gz10 with ⟨rfl, cz12⟩ | ⟨rfl, cz13, cz14⟩ | ⟨rfl, cz15, cz16⟩
    · skip
      refine lv_icmp_eq (tgt := 2293) hx hb dL_law_417 (by decide) (fun cz17 => ?_) (fun cz17 => ?_)
      · skip
        exact law_end (dC := dC) (dI := dI) (Nat.le_of_eq hL6) C0 A hAe (q 0) (r 0) H locs hS ls hl
      · skip
        exact absurd cz17 (by decide)
    · skip
      have z0 : (xs 1).toInt < (0 : Int) := zi_lt.mp cz4
      have z1 : ¬ (xs 1).toInt < (0 : Int) := by intro h9; apply cz13; rw [zi_ltL]; simp only [Int32.toInt_toInt64]; exact h9
      omega
    · skip
      have z0 : (xs 1).toInt < (0 : Int) := zi_lt.mp cz4
      have z1 : ¬ (xs 1).toInt < (0 : Int) := by intro h9; apply cz15; rw [zi_ltL]; simp only [Int32.toInt_toInt64]; exact h9
      omega
  · skip
    refine lv_aload_n hx hb dL_law_408 rfl (lv_at hl 2 rfl) ?_
    refine lv_aload_n hx hb dL_law_409 rfl (lv_at hl 0 rfl) ?_
    refine lv_iload_n hx hb dL_law_410 rfl (lv_at hl 3 rfl) ?_
    refine lv_iconst (v := 1) hx hb dL_law_411 (by decide) ?_
    refine lv_iadd hx hb dL_law_412 ?_
    refine lv_topi (fun xz18 exz18 => ?_)
    obtain rfl : xz18 = 1 := exz18.trans (by decide)
    refine va_sld hx hb hX hbl hbA hS (by rw [hL6]; unfold vp_in; decide) dL_law_413 ?_
    refine W.eq (g2 := F0 m 414 ls [.int (xs 1), .ref (r 0), .int (xs 1)]) rfl ?_
    have hPc := hP.sub (ws' := [((r 0), .inr (12, [.int 0, .ref (r 1), .ref (r 2), .ref (r 3), .ref (r 4), .ref (r 5), .int 0, .int 0, .int 0, .int 0, .int 0, .long 0, .int 0, .int 0, .int 0, .int (-1), .ref (r 6), .ref (r 7), .ref (r 8), .ref (r 9), .ref (r 10), .ref (r 11), .ref (r 12), .ref (r 13), .int 0, .int 0, .int 0, .ref (r 14), .ref (r 15), .ref (r 16), .ref (r 17), .ref (r 18), .ref (r 19), .ref (r 20), .ref (r 21), .ref (r 22), .ref (r 23), .ref (r 24), .ref (r 25), .ref (r 26), .ref (r 27), .ref (r 28), .ref (r 29), .int 0, .int 0, .int 0, .ref (r 30), .int 0, .int 0, .int 0, .int 0, .int 0, .int 0, .ref (r 31), .int 0, .int 0, .int 0, .ref (r 32), .ref (r 33)]))]) [0] rfl
    have hKc := hK.sub (tys' := []) [] rfl
    have hDc := hD.sub (ws' := [((r 0), .inr (12, [.int 0, .ref (r 1), .ref (r 2), .ref (r 3), .ref (r 4), .ref (r 5), .int 0, .int 0, .int 0, .int 0, .int 0, .long 0, .int 0, .int 0, .int 0, .int (-1), .ref (r 6), .ref (r 7), .ref (r 8), .ref (r 9), .ref (r 10), .ref (r 11), .ref (r 12), .ref (r 13), .int 0, .int 0, .int 0, .ref (r 14), .ref (r 15), .ref (r 16), .ref (r 17), .ref (r 18), .ref (r 19), .ref (r 20), .ref (r 21), .ref (r 22), .ref (r 23), .ref (r 24), .ref (r 25), .ref (r 26), .ref (r 27), .ref (r 28), .ref (r 29), .int 0, .int 0, .int 0, .ref (r 30), .int 0, .int 0, .int 0, .int 0, .int 0, .int 0, .ref (r 31), .int 0, .int 0, .int 0, .ref (r 32), .ref (r 33)]))]) [0] (by decide) rfl
    have hFc := va_free (wc := [((r 0), .inr (12, [.int 0, .ref (r 1), .ref (r 2), .ref (r 3), .ref (r 4), .ref (r 5), .int 0, .int 0, .int 0, .int 0, .int 0, .long 0, .int 0, .int 0, .int 0, .int (-1), .ref (r 6), .ref (r 7), .ref (r 8), .ref (r 9), .ref (r 10), .ref (r 11), .ref (r 12), .ref (r 13), .int 0, .int 0, .int 0, .ref (r 14), .ref (r 15), .ref (r 16), .ref (r 17), .ref (r 18), .ref (r 19), .ref (r 20), .ref (r 21), .ref (r 22), .ref (r 23), .ref (r 24), .ref (r 25), .ref (r 26), .ref (r 27), .ref (r 28), .ref (r 29), .int 0, .int 0, .int 0, .ref (r 30), .int 0, .int 0, .int 0, .int 0, .int 0, .int 0, .ref (r 31), .int 0, .int 0, .int 0, .ref (r 32), .ref (r 33)]))]) hD hS hA [0] rfl
    refine va_calli (va_runV (As := [.int (xs 1)]) (rest := [.int (xs 1)]) ⟨hx, hb, hml, hown, hts⟩ (f_X12_end l dC dI H.size ((r 0)) ((r 1)) ((r 2)) ((r 3)) ((r 4)) ((r 5)) ((r 6)) ((r 7)) ((r 8)) ((r 9)) ((r 10)) ((r 11)) ((r 12)) ((r 13)) ((r 14)) ((r 15)) ((r 16)) ((r 17)) ((r 18)) ((r 19)) ((r 20)) ((r 21)) ((r 22)) ((r 23)) ((r 24)) ((r 25)) ((r 26)) ((r 27)) ((r 28)) ((r 29)) ((r 30)) ((r 31)) ((r 32)) ((r 33)) ((xs 1))) (cwV 1 hts (gk_V tw_707 tw_708 tw_709 tw_505 wki_f_X12_end wkg_f_X12_end) rfl rfl rfl (by decide +kernel) ⟨Nat.le_of_ble_eq_true rfl, Nat.le_of_ble_eq_true rfl⟩) ⟨fun a U g mk q => by obtain ⟨q0, q1, qP, qK, qD⟩ := q; exact ⟨q0, q1, qP, va_K.moved (u := U) (U := U.calling g mk a) (Vm.Alike.refl U.vm) qK, qD⟩, va_recv hKc hPc (ci := 12) (q0 := 0) rfl rfl, fun U hU hW => ⟨rfl, by rw [hU], by rw [hU]; exact hPc, va_K.moved hW.alike hKc, hDc.weaken (fun _ _ _ _ => trivial)⟩⟩ rfl rfl hl.1 rfl (lv_room (Nat.le_of_ble_eq_true rfl)) dL_law_414 ⟨Nat.le_of_ble_eq_true rfl, Nat.le_of_ble_eq_true rfl⟩) hS (fun q _ h => hFc q h) hFc (fun oz20 u t H1 locs ht hvm gz19 hB hz1 hk1 hS => ?_)
    generalize H1 = H at hS ⊢
    refine W.widen (k := 305) (n := 4995) (Nat.le_of_ble_eq_true rfl) (Nat.le_of_ble_eq_true rfl) ?_
    rcases gz19 with ⟨rfl, cz21⟩ | ⟨rfl, cz22, cz23⟩ | ⟨rfl, cz24, cz25⟩
    · skip
      have z0 : ¬ (xs 1).toInt < (0 : Int) := fun h9 => cz5 (zi_lt.mpr h9)
      have z1 : (xs 1).toInt ≤ (0 : Int) := zi_le.mp cz6
      have z2 : (xs 1).toInt < (0 : Int) := by have h9 := zi_ltL.mp cz21; simp only [Int32.toInt_toInt64] at h9; exact h9
      omega
    · skip
      have z0 : ¬ (xs 1).toInt < (0 : Int) := fun h9 => cz5 (zi_lt.mpr h9)
      have z1 : (xs 1).toInt ≤ (0 : Int) := zi_le.mp cz6
      have z2 : ¬ (xs 1).toInt < (0 : Int) := by intro h9; apply cz22; rw [zi_ltL]; simp only [Int32.toInt_toInt64]; exact h9
      have z3 : (0 : Int) < (xs 1).toInt := by have h9 := zi_ltL.mp cz23; simp only [Int32.toInt_toInt64] at h9; exact h9
      omega
    · skip
      refine lv_icmp_eq (tgt := 2293) hx hb dL_law_417 (by decide) (fun cz26 => ?_) (fun cz26 => ?_)
      · skip
        exact law_end (dC := dC) (dI := dI) (Nat.le_of_eq hL6) C0 A hAe (q 0) (r 0) H locs hS ls hl
      · skip
        exact absurd rfl cz26
  · skip
    refine lv_aload_n hx hb dL_law_408 rfl (lv_at hl 2 rfl) ?_
    refine lv_aload_n hx hb dL_law_409 rfl (lv_at hl 0 rfl) ?_
    refine lv_iload_n hx hb dL_law_410 rfl (lv_at hl 3 rfl) ?_
    refine lv_iconst (v := 1) hx hb dL_law_411 (by decide) ?_
    refine lv_iadd hx hb dL_law_412 ?_
    refine lv_topi (fun xz27 exz27 => ?_)
    obtain rfl : xz27 = 1 := exz27.trans (by decide)
    refine va_sld hx hb hX hbl hbA hS (by rw [hL6]; unfold vp_in; decide) dL_law_413 ?_
    refine W.eq (g2 := F0 m 414 ls [.int (xs 1), .ref (r 0), .int (-1)]) rfl ?_
    have hPc := hP.sub (ws' := [((r 0), .inr (12, [.int 0, .ref (r 1), .ref (r 2), .ref (r 3), .ref (r 4), .ref (r 5), .int 0, .int 0, .int 0, .int 0, .int 0, .long 0, .int 0, .int 0, .int 0, .int (-1), .ref (r 6), .ref (r 7), .ref (r 8), .ref (r 9), .ref (r 10), .ref (r 11), .ref (r 12), .ref (r 13), .int 0, .int 0, .int 0, .ref (r 14), .ref (r 15), .ref (r 16), .ref (r 17), .ref (r 18), .ref (r 19), .ref (r 20), .ref (r 21), .ref (r 22), .ref (r 23), .ref (r 24), .ref (r 25), .ref (r 26), .ref (r 27), .ref (r 28), .ref (r 29), .int 0, .int 0, .int 0, .ref (r 30), .int 0, .int 0, .int 0, .int 0, .int 0, .int 0, .ref (r 31), .int 0, .int 0, .int 0, .ref (r 32), .ref (r 33)]))]) [0] rfl
    have hKc := hK.sub (tys' := []) [] rfl
    have hDc := hD.sub (ws' := [((r 0), .inr (12, [.int 0, .ref (r 1), .ref (r 2), .ref (r 3), .ref (r 4), .ref (r 5), .int 0, .int 0, .int 0, .int 0, .int 0, .long 0, .int 0, .int 0, .int 0, .int (-1), .ref (r 6), .ref (r 7), .ref (r 8), .ref (r 9), .ref (r 10), .ref (r 11), .ref (r 12), .ref (r 13), .int 0, .int 0, .int 0, .ref (r 14), .ref (r 15), .ref (r 16), .ref (r 17), .ref (r 18), .ref (r 19), .ref (r 20), .ref (r 21), .ref (r 22), .ref (r 23), .ref (r 24), .ref (r 25), .ref (r 26), .ref (r 27), .ref (r 28), .ref (r 29), .int 0, .int 0, .int 0, .ref (r 30), .int 0, .int 0, .int 0, .int 0, .int 0, .int 0, .ref (r 31), .int 0, .int 0, .int 0, .ref (r 32), .ref (r 33)]))]) [0] (by decide) rfl
    have hFc := va_free (wc := [((r 0), .inr (12, [.int 0, .ref (r 1), .ref (r 2), .ref (r 3), .ref (r 4), .ref (r 5), .int 0, .int 0, .int 0, .int 0, .int 0, .long 0, .int 0, .int 0, .int 0, .int (-1), .ref (r 6), .ref (r 7), .ref (r 8), .ref (r 9), .ref (r 10), .ref (r 11), .ref (r 12), .ref (r 13), .int 0, .int 0, .int 0, .ref (r 14), .ref (r 15), .ref (r 16), .ref (r 17), .ref (r 18), .ref (r 19), .ref (r 20), .ref (r 21), .ref (r 22), .ref (r 23), .ref (r 24), .ref (r 25), .ref (r 26), .ref (r 27), .ref (r 28), .ref (r 29), .int 0, .int 0, .int 0, .ref (r 30), .int 0, .int 0, .int 0, .int 0, .int 0, .int 0, .ref (r 31), .int 0, .int 0, .int 0, .ref (r 32), .ref (r 33)]))]) hD hS hA [0] rfl
    refine va_calli (va_runV (As := [.int (xs 1)]) (rest := [.int (-1)]) ⟨hx, hb, hml, hown, hts⟩ (f_X12_end l dC dI H.size ((r 0)) ((r 1)) ((r 2)) ((r 3)) ((r 4)) ((r 5)) ((r 6)) ((r 7)) ((r 8)) ((r 9)) ((r 10)) ((r 11)) ((r 12)) ((r 13)) ((r 14)) ((r 15)) ((r 16)) ((r 17)) ((r 18)) ((r 19)) ((r 20)) ((r 21)) ((r 22)) ((r 23)) ((r 24)) ((r 25)) ((r 26)) ((r 27)) ((r 28)) ((r 29)) ((r 30)) ((r 31)) ((r 32)) ((r 33)) ((xs 1))) (cwV 1 hts (gk_V tw_707 tw_708 tw_709 tw_505 wki_f_X12_end wkg_f_X12_end) rfl rfl rfl (by decide +kernel) ⟨Nat.le_of_ble_eq_true rfl, Nat.le_of_ble_eq_true rfl⟩) ⟨fun a U g mk q => by obtain ⟨q0, q1, qP, qK, qD⟩ := q; exact ⟨q0, q1, qP, va_K.moved (u := U) (U := U.calling g mk a) (Vm.Alike.refl U.vm) qK, qD⟩, va_recv hKc hPc (ci := 12) (q0 := 0) rfl rfl, fun U hU hW => ⟨rfl, by rw [hU], by rw [hU]; exact hPc, va_K.moved hW.alike hKc, hDc.weaken (fun _ _ _ _ => trivial)⟩⟩ rfl rfl hl.1 rfl (lv_room (Nat.le_of_ble_eq_true rfl)) dL_law_414 ⟨Nat.le_of_ble_eq_true rfl, Nat.le_of_ble_eq_true rfl⟩) hS (fun q _ h => hFc q h) hFc (fun oz29 u t H1 locs ht hvm gz28 hB hz1 hk1 hS => ?_)
    generalize H1 = H at hS ⊢
    refine W.widen (k := 305) (n := 4995) (Nat.le_of_ble_eq_true rfl) (Nat.le_of_ble_eq_true rfl) ?_
    rcases gz28 with ⟨rfl, cz30⟩ | ⟨rfl, cz31, cz32⟩ | ⟨rfl, cz33, cz34⟩
    · skip
      have z0 : ¬ (xs 1).toInt < (0 : Int) := fun h9 => cz7 (zi_lt.mpr h9)
      have z1 : ¬ (xs 1).toInt ≤ (0 : Int) := fun h9 => cz8 (zi_le.mpr h9)
      have z2 : (xs 1).toInt < (0 : Int) := by have h9 := zi_ltL.mp cz30; simp only [Int32.toInt_toInt64] at h9; exact h9
      omega
    · skip
      refine lv_icmp_eq (tgt := 2293) hx hb dL_law_417 (by decide) (fun cz35 => ?_) (fun cz35 => ?_)
      · skip
        exact law_end (dC := dC) (dI := dI) (Nat.le_of_eq hL6) C0 A hAe (q 0) (r 0) H locs hS ls hl
      · skip
        exact absurd cz35 (by decide)
    · skip
      have z0 : ¬ (xs 1).toInt < (0 : Int) := fun h9 => cz7 (zi_lt.mpr h9)
      have z1 : ¬ (xs 1).toInt ≤ (0 : Int) := fun h9 => cz8 (zi_le.mpr h9)
      have z2 : ¬ (xs 1).toInt < (0 : Int) := by intro h9; apply cz33; rw [zi_ltL]; simp only [Int32.toInt_toInt64]; exact h9
      have z3 : ¬ (0 : Int) < (xs 1).toInt := by intro h9; apply cz34; rw [zi_ltL]; simp only [Int32.toInt_toInt64]; exact h9
      omega
set_option maxHeartbeats 4000000 in
set_option maxRecDepth 100000 in
theorem law_case_2 {p : Program} {l : Launch} {e : Env} {s : State} {m : MethodId} {below : List Frame} {meth : Method} {c : Code} {dC : Nat → ClassId} {dI : Nat → Nat → Nat} {b L : Nat} {xs : Nat → Int32} (hL6 : L = 6) (C0 : lw_At p s m meth c b L xs) (A : Nat → Prop) (hAe : A = fun q => s.heap.size ≤ q) (q r : Nat → Nat) (k j : Nat → ClassId) (H : Heap) (locs : List Loc) (hK : va_K (dC, dI) vwCl (tX k ++ tM j) s) (hP : va_P (dC, dI) vwCl (wX q k ++ wM r j) H) (hD : va_D A (wX q k ++ wM r j)) (hS : va_S A s.heap H locs) (ls : Array Slot) (hl : lv_has ls 4 [(0, .ref b), (1, .ref (q 0)), (2, .ref (r 0)), (3, .int 0)]) : W p l e room_1 s m #[Value.ref b] below meth c H locs 305 4995 (lw_Z below #[Value.ref b] s) (F0 m 422 ls []) := by
  obtain ⟨hx, hb, hr, hml, hown, hts, hX, hbl, hlocks, hgv⟩ := id C0
  have hown : s.vm.findClass RL = some m.cls := hown
  have hA : ∀ q : Nat, s.heap.size ≤ q → A q := by rw [hAe]; exact fun _ h => h
  have hbA : ¬ A b := by rw [hAe]; exact Nat.not_le.mpr hbl
  refine lv_aload_n hx hb dL_law_422 rfl (lv_at hl 1 rfl) ?_
  have hPc := hP.sub (ws' := [((q 0), .inr (11, [.ref (q 1), .ref (q 2), .ref (q 3), .ref (q 4), .ref (q 5), .ref (q 6), .ref (q 7), .ref (q 8), .ref (q 9), .ref (q 10), .ref (q 11), .ref (q 12), .ref (q 13), .ref (q 14), .ref (q 15)])), ((q 1), .inr (9, [.ref (q 16), .ref (q 17), .int 0, .int 0, .int (-1), .int 0, .int 0, .int 0, .int 0, .int 0])), ((q 6), .inr (8, [.ref (q 2), .ref (q 4), .ref (q 37), .ref (q 38)])), ((q 8), .inr (4, [.ref (q 39), .ref (q 40), .int 0, .int 0, .int 0, .int 0])), ((q 9), .inr (4, [.ref (q 41), .ref (q 42), .int 0, .int 0, .int 0, .int 0])), ((q 4), .inr (3, [.ref (q 35), .ref (q 36), .int 0, .int 0])), ((q 35), .inl ((k 18), 7, .inl (fun _ => 0))), ((q 36), .inl ((k 19), 7, .inl (fun _ => 0))), ((q 3), .inr (0, [.ref (q 32), .ref (q 33), .ref (q 34), .int 0])), ((q 2), .inr (10, [.ref (q 25), .ref (q 26), .ref (q 27), .ref (q 28), .ref (q 29), .ref (q 30), .ref (q 31), .int 0, .int 0, .int 0, .int 0, .int 0, .int 0, .int 0, .int 0, .int 0])), ((q 25), .inl ((k 8), 3, .inl (fun _ => 0))), ((q 26), .inl ((k 9), 3, .inl (fun _ => 0))), ((q 27), .inl ((k 10), 7, .inl (fun _ => 0))), ((q 28), .inl ((k 11), 7, .inl (fun _ => 0))), ((q 29), .inl ((k 12), 5, .inl (fun _ => 0))), ((q 30), .inl ((k 13), 5, .inl (fun _ => 0))), ((q 31), .inl ((k 14), 5, .inl (fun _ => 0))), ((q 17), .inr (10, [.ref (q 18), .ref (q 19), .ref (q 20), .ref (q 21), .ref (q 22), .ref (q 23), .ref (q 24), .int 0, .int 0, .int 0, .int 0, .int 0, .int 0, .int 0, .int 0, .int 0])), ((q 18), .inl ((k 1), 3, .inl (fun _ => 0))), ((q 19), .inl ((k 2), 3, .inl (fun _ => 0))), ((q 20), .inl ((k 3), 7, .inl (fun _ => 0))), ((q 21), .inl ((k 4), 7, .inl (fun _ => 0))), ((q 22), .inl ((k 5), 5, .inl (fun _ => 0))), ((q 23), .inl ((k 6), 5, .inl (fun _ => 0))), ((q 24), .inl ((k 7), 5, .inl (fun _ => 0)))]) [0, 1, 26, 27, 28, 23, 24, 25, 19, 11, 12, 13, 14, 15, 16, 17, 18, 3, 4, 5, 6, 7, 8, 9, 10] rfl
  have hKc := hK.sub (tys' := [((k 18), .int), ((k 19), .int), ((k 8), .int), ((k 9), .int), ((k 10), .int), ((k 11), .int), ((k 12), .int), ((k 13), .int), ((k 14), .int), ((k 1), .int), ((k 2), .int), ((k 3), .int), ((k 4), .int), ((k 5), .int), ((k 6), .int), ((k 7), .int)]) [18, 19, 8, 9, 10, 11, 12, 13, 14, 1, 2, 3, 4, 5, 6, 7] rfl
  have hDc := hD.sub (ws' := [((q 0), .inr (11, [.ref (q 1), .ref (q 2), .ref (q 3), .ref (q 4), .ref (q 5), .ref (q 6), .ref (q 7), .ref (q 8), .ref (q 9), .ref (q 10), .ref (q 11), .ref (q 12), .ref (q 13), .ref (q 14), .ref (q 15)])), ((q 1), .inr (9, [.ref (q 16), .ref (q 17), .int 0, .int 0, .int (-1), .int 0, .int 0, .int 0, .int 0, .int 0])), ((q 6), .inr (8, [.ref (q 2), .ref (q 4), .ref (q 37), .ref (q 38)])), ((q 8), .inr (4, [.ref (q 39), .ref (q 40), .int 0, .int 0, .int 0, .int 0])), ((q 9), .inr (4, [.ref (q 41), .ref (q 42), .int 0, .int 0, .int 0, .int 0])), ((q 4), .inr (3, [.ref (q 35), .ref (q 36), .int 0, .int 0])), ((q 35), .inl ((k 18), 7, .inl (fun _ => 0))), ((q 36), .inl ((k 19), 7, .inl (fun _ => 0))), ((q 3), .inr (0, [.ref (q 32), .ref (q 33), .ref (q 34), .int 0])), ((q 2), .inr (10, [.ref (q 25), .ref (q 26), .ref (q 27), .ref (q 28), .ref (q 29), .ref (q 30), .ref (q 31), .int 0, .int 0, .int 0, .int 0, .int 0, .int 0, .int 0, .int 0, .int 0])), ((q 25), .inl ((k 8), 3, .inl (fun _ => 0))), ((q 26), .inl ((k 9), 3, .inl (fun _ => 0))), ((q 27), .inl ((k 10), 7, .inl (fun _ => 0))), ((q 28), .inl ((k 11), 7, .inl (fun _ => 0))), ((q 29), .inl ((k 12), 5, .inl (fun _ => 0))), ((q 30), .inl ((k 13), 5, .inl (fun _ => 0))), ((q 31), .inl ((k 14), 5, .inl (fun _ => 0))), ((q 17), .inr (10, [.ref (q 18), .ref (q 19), .ref (q 20), .ref (q 21), .ref (q 22), .ref (q 23), .ref (q 24), .int 0, .int 0, .int 0, .int 0, .int 0, .int 0, .int 0, .int 0, .int 0])), ((q 18), .inl ((k 1), 3, .inl (fun _ => 0))), ((q 19), .inl ((k 2), 3, .inl (fun _ => 0))), ((q 20), .inl ((k 3), 7, .inl (fun _ => 0))), ((q 21), .inl ((k 4), 7, .inl (fun _ => 0))), ((q 22), .inl ((k 5), 5, .inl (fun _ => 0))), ((q 23), .inl ((k 6), 5, .inl (fun _ => 0))), ((q 24), .inl ((k 7), 5, .inl (fun _ => 0)))]) [0, 1, 26, 27, 28, 23, 24, 25, 19, 11, 12, 13, 14, 15, 16, 17, 18, 3, 4, 5, 6, 7, 8, 9, 10] (by decide) rfl
  have hFc := va_free (wc := [((q 0), .inr (11, [.ref (q 1), .ref (q 2), .ref (q 3), .ref (q 4), .ref (q 5), .ref (q 6), .ref (q 7), .ref (q 8), .ref (q 9), .ref (q 10), .ref (q 11), .ref (q 12), .ref (q 13), .ref (q 14), .ref (q 15)])), ((q 1), .inr (9, [.ref (q 16), .ref (q 17), .int 0, .int 0, .int (-1), .int 0, .int 0, .int 0, .int 0, .int 0])), ((q 6), .inr (8, [.ref (q 2), .ref (q 4), .ref (q 37), .ref (q 38)])), ((q 8), .inr (4, [.ref (q 39), .ref (q 40), .int 0, .int 0, .int 0, .int 0])), ((q 9), .inr (4, [.ref (q 41), .ref (q 42), .int 0, .int 0, .int 0, .int 0])), ((q 4), .inr (3, [.ref (q 35), .ref (q 36), .int 0, .int 0])), ((q 35), .inl ((k 18), 7, .inl (fun _ => 0))), ((q 36), .inl ((k 19), 7, .inl (fun _ => 0))), ((q 3), .inr (0, [.ref (q 32), .ref (q 33), .ref (q 34), .int 0])), ((q 2), .inr (10, [.ref (q 25), .ref (q 26), .ref (q 27), .ref (q 28), .ref (q 29), .ref (q 30), .ref (q 31), .int 0, .int 0, .int 0, .int 0, .int 0, .int 0, .int 0, .int 0, .int 0])), ((q 25), .inl ((k 8), 3, .inl (fun _ => 0))), ((q 26), .inl ((k 9), 3, .inl (fun _ => 0))), ((q 27), .inl ((k 10), 7, .inl (fun _ => 0))), ((q 28), .inl ((k 11), 7, .inl (fun _ => 0))), ((q 29), .inl ((k 12), 5, .inl (fun _ => 0))), ((q 30), .inl ((k 13), 5, .inl (fun _ => 0))), ((q 31), .inl ((k 14), 5, .inl (fun _ => 0))), ((q 17), .inr (10, [.ref (q 18), .ref (q 19), .ref (q 20), .ref (q 21), .ref (q 22), .ref (q 23), .ref (q 24), .int 0, .int 0, .int 0, .int 0, .int 0, .int 0, .int 0, .int 0, .int 0])), ((q 18), .inl ((k 1), 3, .inl (fun _ => 0))), ((q 19), .inl ((k 2), 3, .inl (fun _ => 0))), ((q 20), .inl ((k 3), 7, .inl (fun _ => 0))), ((q 21), .inl ((k 4), 7, .inl (fun _ => 0))), ((q 22), .inl ((k 5), 5, .inl (fun _ => 0))), ((q 23), .inl ((k 6), 5, .inl (fun _ => 0))), ((q 24), .inl ((k 7), 5, .inl (fun _ => 0)))]) hD hS hA [0, 1, 26, 27, 28, 23, 24, 25, 19, 11, 12, 13, 14, 15, 16, 17, 18, 3, 4, 5, 6, 7, 8, 9, 10] rfl
  refine va_calli (va_runV (As := []) (rest := []) ⟨hx, hb, hml, hown, hts⟩ (f_X11_valley l dC dI H.size ((q 0)) ((q 1)) ((q 2)) ((q 3)) ((q 4)) ((q 5)) ((q 6)) ((q 7)) ((q 8)) ((q 9)) ((q 10)) ((q 11)) ((q 12)) ((q 13)) ((q 14)) ((q 15)) ((q 16)) ((q 17)) ((q 37)) ((q 38)) ((q 39)) ((q 40)) ((q 41)) ((q 42)) ((q 35)) ((q 36)) ((q 32)) ((q 33)) ((q 34)) ((k 18)) ((k 19)) ((fun _ => 0)) ((fun _ => 0)) ((q 25)) ((q 26)) ((q 27)) ((q 28)) ((q 29)) ((q 30)) ((q 31)) ((k 8)) ((k 9)) ((k 10)) ((k 11)) ((k 12)) ((k 13)) ((k 14)) ((fun _ => 0)) ((fun _ => 0)) ((fun _ => 0)) ((fun _ => 0)) ((fun _ => 0)) ((fun _ => 0)) ((fun _ => 0)) ((q 18)) ((q 19)) ((q 20)) ((q 21)) ((q 22)) ((q 23)) ((q 24)) ((k 1)) ((k 2)) ((k 3)) ((k 4)) ((k 5)) ((k 6)) ((k 7)) ((fun _ => 0)) ((fun _ => 0)) ((fun _ => 0)) ((fun _ => 0)) ((fun _ => 0)) ((fun _ => 0)) ((fun _ => 0))) (cwV 0 hts (gk_V tw_710 tw_711 tw_712 tw_157 wki_f_X11_valley wkg_f_X11_valley) rfl rfl rfl (by decide +kernel) ⟨Nat.le_of_ble_eq_true rfl, Nat.le_of_ble_eq_true rfl⟩) ⟨fun a U g mk q => by obtain ⟨q0, q1, qP, qK, qD⟩ := q; exact ⟨q0, q1, qP, va_K.moved (u := U) (U := U.calling g mk a) (Vm.Alike.refl U.vm) qK, qD⟩, va_recv hKc hPc (ci := 11) (q0 := 0) rfl rfl, fun U hU hW => ⟨rfl, by rw [hU], by rw [hU]; exact hPc, va_K.moved hW.alike hKc, hDc.weaken (fun _ _ _ _ => trivial)⟩⟩ rfl rfl hl.1 rfl (lv_room (Nat.le_of_ble_eq_true rfl)) dL_law_423 ⟨Nat.le_of_ble_eq_true rfl, Nat.le_of_ble_eq_true rfl⟩) hS (fun q _ h => hFc q h) hFc (fun oz2 u t H1 locs ht hvm gz1 hB hz1 hk1 hS => ?_)
  have hP1 : va_P (dC, dI) vwCl [] H1 := fun k q h => by simp at h
  have hD1 : va_D (va_A [((q 0), .inr (11, [.ref (q 1), .ref (q 2), .ref (q 3), .ref (q 4), .ref (q 5), .ref (q 6), .ref (q 7), .ref (q 8), .ref (q 9), .ref (q 10), .ref (q 11), .ref (q 12), .ref (q 13), .ref (q 14), .ref (q 15)])), ((q 1), .inr (9, [.ref (q 16), .ref (q 17), .int 0, .int 0, .int (-1), .int 0, .int 0, .int 0, .int 0, .int 0])), ((q 6), .inr (8, [.ref (q 2), .ref (q 4), .ref (q 37), .ref (q 38)])), ((q 8), .inr (4, [.ref (q 39), .ref (q 40), .int 0, .int 0, .int 0, .int 0])), ((q 9), .inr (4, [.ref (q 41), .ref (q 42), .int 0, .int 0, .int 0, .int 0])), ((q 4), .inr (3, [.ref (q 35), .ref (q 36), .int 0, .int 0])), ((q 35), .inl ((k 18), 7, .inl (fun _ => 0))), ((q 36), .inl ((k 19), 7, .inl (fun _ => 0))), ((q 3), .inr (0, [.ref (q 32), .ref (q 33), .ref (q 34), .int 0])), ((q 2), .inr (10, [.ref (q 25), .ref (q 26), .ref (q 27), .ref (q 28), .ref (q 29), .ref (q 30), .ref (q 31), .int 0, .int 0, .int 0, .int 0, .int 0, .int 0, .int 0, .int 0, .int 0])), ((q 25), .inl ((k 8), 3, .inl (fun _ => 0))), ((q 26), .inl ((k 9), 3, .inl (fun _ => 0))), ((q 27), .inl ((k 10), 7, .inl (fun _ => 0))), ((q 28), .inl ((k 11), 7, .inl (fun _ => 0))), ((q 29), .inl ((k 12), 5, .inl (fun _ => 0))), ((q 30), .inl ((k 13), 5, .inl (fun _ => 0))), ((q 31), .inl ((k 14), 5, .inl (fun _ => 0))), ((q 17), .inr (10, [.ref (q 18), .ref (q 19), .ref (q 20), .ref (q 21), .ref (q 22), .ref (q 23), .ref (q 24), .int 0, .int 0, .int 0, .int 0, .int 0, .int 0, .int 0, .int 0, .int 0])), ((q 18), .inl ((k 1), 3, .inl (fun _ => 0))), ((q 19), .inl ((k 2), 3, .inl (fun _ => 0))), ((q 20), .inl ((k 3), 7, .inl (fun _ => 0))), ((q 21), .inl ((k 4), 7, .inl (fun _ => 0))), ((q 22), .inl ((k 5), 5, .inl (fun _ => 0))), ((q 23), .inl ((k 6), 5, .inl (fun _ => 0))), ((q 24), .inl ((k 7), 5, .inl (fun _ => 0)))] H.size) [] := ⟨fun i j p q h => by simp at h, fun k q h => by simp at h⟩
  obtain ⟨hP, hD⟩ := va_join (wr := wM r j) (w1 := []) hP hD [0, 1, 26, 27, 28, 23, 24, 25, 19, 11, 12, 13, 14, 15, 16, 17, 18, 3, 4, 5, 6, 7, 8, 9, 10] [78, 79, 80, 81, 82, 83, 84, 85, 86, 87, 88, 89, 90] rfl rfl (by decide) (by decide) hk1 hFc hP1 hD1
  have hK := hK.sub (tys' := tM j) [56, 57, 58, 59, 60, 61, 62, 63, 64, 65, 66, 67] rfl
  clear hPc hKc hDc hFc hk1 hB hP1 hD1 hz1
  generalize H1 = H at hP hS ⊢
  have hP : va_P (dC, dI) vwCl (wM r j) H := hP
  have hD : va_D A (wM r j) := hD
  refine W.widen (k := 305) (n := 4995) (Nat.le_of_ble_eq_true rfl) (Nat.le_of_ble_eq_true rfl) ?_
  obtain rfl := gz1
  refine lv_aload_n hx hb dL_law_426 rfl (lv_at hl 2 rfl) ?_
  have hPc := hP.sub (ws' := [((r 0), .inr (12, [.int 0, .ref (r 1), .ref (r 2), .ref (r 3), .ref (r 4), .ref (r 5), .int 0, .int 0, .int 0, .int 0, .int 0, .long 0, .int 0, .int 0, .int 0, .int (-1), .ref (r 6), .ref (r 7), .ref (r 8), .ref (r 9), .ref (r 10), .ref (r 11), .ref (r 12), .ref (r 13), .int 0, .int 0, .int 0, .ref (r 14), .ref (r 15), .ref (r 16), .ref (r 17), .ref (r 18), .ref (r 19), .ref (r 20), .ref (r 21), .ref (r 22), .ref (r 23), .ref (r 24), .ref (r 25), .ref (r 26), .ref (r 27), .ref (r 28), .ref (r 29), .int 0, .int 0, .int 0, .ref (r 30), .int 0, .int 0, .int 0, .int 0, .int 0, .int 0, .ref (r 31), .int 0, .int 0, .int 0, .ref (r 32), .ref (r 33)])), ((r 6), .inl ((j 4), 5, .inl (fun _ => 0))), ((r 7), .inl ((j 5), 40, .inl (fun _ => 0))), ((r 8), .inl ((j 6), 30, .inl (fun _ => 0))), ((r 9), .inl ((j 7), 70, .inl (fun _ => 0))), ((r 10), .inl ((j 8), 75, .inl (fun _ => 0))), ((r 11), .inl ((j 9), 20, .inl (fun _ => 0))), ((r 12), .inl ((j 10), 450, .inl (fun _ => 0)))]) [0, 5, 6, 7, 8, 9, 10, 11] rfl
  have hKc := hK.sub (tys' := [((j 4), .int), ((j 5), .int), ((j 6), .int), ((j 7), .int), ((j 8), .int), ((j 9), .int), ((j 10), .int)]) [4, 5, 6, 7, 8, 9, 10] rfl
  have hDc := hD.sub (ws' := [((r 0), .inr (12, [.int 0, .ref (r 1), .ref (r 2), .ref (r 3), .ref (r 4), .ref (r 5), .int 0, .int 0, .int 0, .int 0, .int 0, .long 0, .int 0, .int 0, .int 0, .int (-1), .ref (r 6), .ref (r 7), .ref (r 8), .ref (r 9), .ref (r 10), .ref (r 11), .ref (r 12), .ref (r 13), .int 0, .int 0, .int 0, .ref (r 14), .ref (r 15), .ref (r 16), .ref (r 17), .ref (r 18), .ref (r 19), .ref (r 20), .ref (r 21), .ref (r 22), .ref (r 23), .ref (r 24), .ref (r 25), .ref (r 26), .ref (r 27), .ref (r 28), .ref (r 29), .int 0, .int 0, .int 0, .ref (r 30), .int 0, .int 0, .int 0, .int 0, .int 0, .int 0, .ref (r 31), .int 0, .int 0, .int 0, .ref (r 32), .ref (r 33)])), ((r 6), .inl ((j 4), 5, .inl (fun _ => 0))), ((r 7), .inl ((j 5), 40, .inl (fun _ => 0))), ((r 8), .inl ((j 6), 30, .inl (fun _ => 0))), ((r 9), .inl ((j 7), 70, .inl (fun _ => 0))), ((r 10), .inl ((j 8), 75, .inl (fun _ => 0))), ((r 11), .inl ((j 9), 20, .inl (fun _ => 0))), ((r 12), .inl ((j 10), 450, .inl (fun _ => 0)))]) [0, 5, 6, 7, 8, 9, 10, 11] (by decide) rfl
  have hFc := va_free (wc := [((r 0), .inr (12, [.int 0, .ref (r 1), .ref (r 2), .ref (r 3), .ref (r 4), .ref (r 5), .int 0, .int 0, .int 0, .int 0, .int 0, .long 0, .int 0, .int 0, .int 0, .int (-1), .ref (r 6), .ref (r 7), .ref (r 8), .ref (r 9), .ref (r 10), .ref (r 11), .ref (r 12), .ref (r 13), .int 0, .int 0, .int 0, .ref (r 14), .ref (r 15), .ref (r 16), .ref (r 17), .ref (r 18), .ref (r 19), .ref (r 20), .ref (r 21), .ref (r 22), .ref (r 23), .ref (r 24), .ref (r 25), .ref (r 26), .ref (r 27), .ref (r 28), .ref (r 29), .int 0, .int 0, .int 0, .ref (r 30), .int 0, .int 0, .int 0, .int 0, .int 0, .int 0, .ref (r 31), .int 0, .int 0, .int 0, .ref (r 32), .ref (r 33)])), ((r 6), .inl ((j 4), 5, .inl (fun _ => 0))), ((r 7), .inl ((j 5), 40, .inl (fun _ => 0))), ((r 8), .inl ((j 6), 30, .inl (fun _ => 0))), ((r 9), .inl ((j 7), 70, .inl (fun _ => 0))), ((r 10), .inl ((j 8), 75, .inl (fun _ => 0))), ((r 11), .inl ((j 9), 20, .inl (fun _ => 0))), ((r 12), .inl ((j 10), 450, .inl (fun _ => 0)))]) hD hS hA [0, 5, 6, 7, 8, 9, 10, 11] rfl
  refine va_calli (va_runV (As := []) (rest := [.int 0]) ⟨hx, hb, hml, hown, hts⟩ (f_X12_valley l dC dI H.size ((r 0)) ((r 1)) ((r 2)) ((r 3)) ((r 4)) ((r 5)) ((r 6)) ((r 7)) ((r 8)) ((r 9)) ((r 10)) ((r 11)) ((r 12)) ((r 13)) ((r 14)) ((r 15)) ((r 16)) ((r 17)) ((r 18)) ((r 19)) ((r 20)) ((r 21)) ((r 22)) ((r 23)) ((r 24)) ((r 25)) ((r 26)) ((r 27)) ((r 28)) ((r 29)) ((r 30)) ((r 31)) ((r 32)) ((r 33)) ((j 4)) ((j 5)) ((j 6)) ((j 7)) ((j 8)) ((j 9)) ((j 10))) (cwV 0 hts (gk_V tw_713 tw_714 tw_715 tw_505 wki_f_X12_valley wkg_f_X12_valley) rfl rfl rfl (by decide +kernel) ⟨Nat.le_of_ble_eq_true rfl, Nat.le_of_ble_eq_true rfl⟩) ⟨fun a U g mk q => by obtain ⟨q0, q1, qP, qK, qD⟩ := q; exact ⟨q0, q1, qP, va_K.moved (u := U) (U := U.calling g mk a) (Vm.Alike.refl U.vm) qK, qD⟩, va_recv hKc hPc (ci := 12) (q0 := 0) rfl rfl, fun U hU hW => ⟨rfl, by rw [hU], by rw [hU]; exact hPc, va_K.moved hW.alike hKc, hDc.weaken (fun _ _ _ _ => trivial)⟩⟩ rfl rfl hl.1 rfl (lv_room (Nat.le_of_ble_eq_true rfl)) dL_law_427 ⟨Nat.le_of_ble_eq_true rfl, Nat.le_of_ble_eq_true rfl⟩) hS (fun q _ h => hFc q h) hFc (fun oz4 u t H1 locs ht hvm gz3 hB hz1 hk1 hS => ?_)
  generalize H1 = H at hS ⊢
  refine W.widen (k := 305) (n := 4995) (Nat.le_of_ble_eq_true rfl) (Nat.le_of_ble_eq_true rfl) ?_
  obtain rfl := gz3
  refine lv_icmp_eq (tgt := 2293) hx hb dL_law_430 (by decide) (fun cz5 => ?_) (fun cz5 => ?_)
  · skip
    exact law_end (dC := dC) (dI := dI) (Nat.le_of_eq hL6) C0 A hAe (q 0) (r 0) H locs hS ls hl
  · skip
    exact absurd cz5 (by decide)
set_option maxHeartbeats 4000000 in
set_option maxRecDepth 100000 in
theorem law_case_3 {p : Program} {l : Launch} {e : Env} {s : State} {m : MethodId} {below : List Frame} {meth : Method} {c : Code} {dC : Nat → ClassId} {dI : Nat → Nat → Nat} {b L : Nat} {xs : Nat → Int32} (hL6 : L = 6) (C0 : lw_At p s m meth c b L xs) (A : Nat → Prop) (hAe : A = fun q => s.heap.size ≤ q) (q r : Nat → Nat) (k j : Nat → ClassId) (H : Heap) (locs : List Loc) (hK : va_K (dC, dI) vwCl (tX k ++ tM j) s) (hP : va_P (dC, dI) vwCl (wX q k ++ wM r j) H) (hD : va_D A (wX q k ++ wM r j)) (hS : va_S A s.heap H locs) (ls : Array Slot) (hl : lv_has ls 4 [(0, .ref b), (1, .ref (q 0)), (2, .ref (r 0)), (3, .int 0)]) : W p l e room_1 s m #[Value.ref b] below meth c H locs 305 4995 (lw_Z below #[Value.ref b] s) (F0 m 435 ls []) := by
  obtain ⟨hx, hb, hr, hml, hown, hts, hX, hbl, hlocks, hgv⟩ := id C0
  have hown : s.vm.findClass RL = some m.cls := hown
  have hA : ∀ q : Nat, s.heap.size ≤ q → A q := by rw [hAe]; exact fun _ h => h
  have hbA : ¬ A b := by rw [hAe]; exact Nat.not_le.mpr hbl
  refine lv_aload_n hx hb dL_law_435 rfl (lv_at hl 1 rfl) ?_
  refine lv_aload_n hx hb dL_law_436 rfl (lv_at hl 0 rfl) ?_
  refine lv_iload_n hx hb dL_law_437 rfl (lv_at hl 3 rfl) ?_
  refine lv_iconst (v := 1) hx hb dL_law_438 (by decide) ?_
  refine lv_iadd hx hb dL_law_439 ?_
  refine lv_topi (fun xz1 exz1 => ?_)
  obtain rfl : xz1 = 1 := exz1.trans (by decide)
  refine va_sld hx hb hX hbl hbA hS (by rw [hL6]; unfold vp_in; decide) dL_law_440 ?_
  refine W.eq (g2 := F0 m 441 ls [.int (xs 1), .ref (q 0)]) rfl ?_
  have hPc := hP.sub (ws' := [((q 0), .inr (11, [.ref (q 1), .ref (q 2), .ref (q 3), .ref (q 4), .ref (q 5), .ref (q 6), .ref (q 7), .ref (q 8), .ref (q 9), .ref (q 10), .ref (q 11), .ref (q 12), .ref (q 13), .ref (q 14), .ref (q 15)])), ((q 1), .inr (9, [.ref (q 16), .ref (q 17), .int 0, .int 0, .int (-1), .int 0, .int 0, .int 0, .int 0, .int 0]))]) [0, 1] rfl
  have hKc := hK.sub (tys' := []) [] rfl
  refine vp_callSi (va_Run.run (va_runV (As := [.int (xs 1)]) (rest := []) ⟨hx, hb, hml, hown, hts⟩ (f_X11_fault l dC dI ((q 0)) ((q 1)) ((q 2)) ((q 3)) ((q 4)) ((q 5)) ((q 6)) ((q 7)) ((q 8)) ((q 9)) ((q 10)) ((q 11)) ((q 12)) ((q 13)) ((q 14)) ((q 15)) ((q 16)) ((q 17)) ((xs 1))) (cwV 1 hts (gk_V tw_716 tw_717 tw_718 tw_157 wki_f_X11_fault wkg_f_X11_fault) rfl rfl rfl (by decide +kernel) ⟨Nat.le_of_ble_eq_true rfl, Nat.le_of_ble_eq_true rfl⟩) ⟨fun a U g mk q => by obtain ⟨q0, qP, qK⟩ := q; exact ⟨q0, qP, va_K.moved (u := U) (U := U.calling g mk a) (Vm.Alike.refl U.vm) qK⟩, va_recv hKc hPc (ci := 11) (q0 := 0) rfl rfl, fun U hU hW => ⟨rfl, by rw [hU]; exact hPc, va_K.moved hW.alike hKc⟩⟩ rfl rfl hl.1 rfl (lv_room (Nat.le_of_ble_eq_true rfl)) dL_law_441 ⟨Nat.le_of_ble_eq_true rfl, Nat.le_of_ble_eq_true rfl⟩)) (fun oz3 gz2 => ?_)
  rcases gz2 with ⟨rfl, cz4, cz5⟩ | ⟨rfl, cz6, cz7⟩ | ⟨rfl, cz8⟩
  · skip
    refine lv_aload_n hx hb dL_law_444 rfl (lv_at hl 2 rfl) ?_
    refine lv_aload_n hx hb dL_law_445 rfl (lv_at hl 0 rfl) ?_
    refine lv_iload_n hx hb dL_law_446 rfl (lv_at hl 3 rfl) ?_
    refine lv_iconst (v := 1) hx hb dL_law_447 (by decide) ?_
    refine lv_iadd hx hb dL_law_448 ?_
    refine lv_topi (fun xz9 exz9 => ?_)
    obtain rfl : xz9 = 1 := exz9.trans (by decide)
    refine va_sld hx hb hX hbl hbA hS (by rw [hL6]; unfold vp_in; decide) dL_law_449 ?_
    refine W.eq (g2 := F0 m 450 ls [.int (xs 1), .ref (r 0), .int (-1)]) rfl ?_
    have hPc := hP.sub (ws' := [((r 0), .inr (12, [.int 0, .ref (r 1), .ref (r 2), .ref (r 3), .ref (r 4), .ref (r 5), .int 0, .int 0, .int 0, .int 0, .int 0, .long 0, .int 0, .int 0, .int 0, .int (-1), .ref (r 6), .ref (r 7), .ref (r 8), .ref (r 9), .ref (r 10), .ref (r 11), .ref (r 12), .ref (r 13), .int 0, .int 0, .int 0, .ref (r 14), .ref (r 15), .ref (r 16), .ref (r 17), .ref (r 18), .ref (r 19), .ref (r 20), .ref (r 21), .ref (r 22), .ref (r 23), .ref (r 24), .ref (r 25), .ref (r 26), .ref (r 27), .ref (r 28), .ref (r 29), .int 0, .int 0, .int 0, .ref (r 30), .int 0, .int 0, .int 0, .int 0, .int 0, .int 0, .ref (r 31), .int 0, .int 0, .int 0, .ref (r 32), .ref (r 33)]))]) [78] rfl
    have hKc := hK.sub (tys' := []) [] rfl
    have hDc := hD.sub (ws' := [((r 0), .inr (12, [.int 0, .ref (r 1), .ref (r 2), .ref (r 3), .ref (r 4), .ref (r 5), .int 0, .int 0, .int 0, .int 0, .int 0, .long 0, .int 0, .int 0, .int 0, .int (-1), .ref (r 6), .ref (r 7), .ref (r 8), .ref (r 9), .ref (r 10), .ref (r 11), .ref (r 12), .ref (r 13), .int 0, .int 0, .int 0, .ref (r 14), .ref (r 15), .ref (r 16), .ref (r 17), .ref (r 18), .ref (r 19), .ref (r 20), .ref (r 21), .ref (r 22), .ref (r 23), .ref (r 24), .ref (r 25), .ref (r 26), .ref (r 27), .ref (r 28), .ref (r 29), .int 0, .int 0, .int 0, .ref (r 30), .int 0, .int 0, .int 0, .int 0, .int 0, .int 0, .ref (r 31), .int 0, .int 0, .int 0, .ref (r 32), .ref (r 33)]))]) [78] (by decide) rfl
    have hFc := va_free (wc := [((r 0), .inr (12, [.int 0, .ref (r 1), .ref (r 2), .ref (r 3), .ref (r 4), .ref (r 5), .int 0, .int 0, .int 0, .int 0, .int 0, .long 0, .int 0, .int 0, .int 0, .int (-1), .ref (r 6), .ref (r 7), .ref (r 8), .ref (r 9), .ref (r 10), .ref (r 11), .ref (r 12), .ref (r 13), .int 0, .int 0, .int 0, .ref (r 14), .ref (r 15), .ref (r 16), .ref (r 17), .ref (r 18), .ref (r 19), .ref (r 20), .ref (r 21), .ref (r 22), .ref (r 23), .ref (r 24), .ref (r 25), .ref (r 26), .ref (r 27), .ref (r 28), .ref (r 29), .int 0, .int 0, .int 0, .ref (r 30), .int 0, .int 0, .int 0, .int 0, .int 0, .int 0, .ref (r 31), .int 0, .int 0, .int 0, .ref (r 32), .ref (r 33)]))]) hD hS hA [78] rfl
    refine va_calli (va_runV (As := [.int (xs 1)]) (rest := [.int (-1)]) ⟨hx, hb, hml, hown, hts⟩ (f_X12_fault l dC dI H.size ((r 0)) ((r 1)) ((r 2)) ((r 3)) ((r 4)) ((r 5)) ((r 6)) ((r 7)) ((r 8)) ((r 9)) ((r 10)) ((r 11)) ((r 12)) ((r 13)) ((r 14)) ((r 15)) ((r 16)) ((r 17)) ((r 18)) ((r 19)) ((r 20)) ((r 21)) ((r 22)) ((r 23)) ((r 24)) ((r 25)) ((r 26)) ((r 27)) ((r 28)) ((r 29)) ((r 30)) ((r 31)) ((r 32)) ((r 33)) ((xs 1))) (cwV 1 hts (gk_V tw_719 tw_720 tw_721 tw_505 wki_f_X12_fault wkg_f_X12_fault) rfl rfl rfl (by decide +kernel) ⟨Nat.le_of_ble_eq_true rfl, Nat.le_of_ble_eq_true rfl⟩) ⟨fun a U g mk q => by obtain ⟨q0, q1, qP, qK, qD⟩ := q; exact ⟨q0, q1, qP, va_K.moved (u := U) (U := U.calling g mk a) (Vm.Alike.refl U.vm) qK, qD⟩, va_recv hKc hPc (ci := 12) (q0 := 0) rfl rfl, fun U hU hW => ⟨rfl, by rw [hU], by rw [hU]; exact hPc, va_K.moved hW.alike hKc, hDc.weaken (fun _ _ _ _ => trivial)⟩⟩ rfl rfl hl.1 rfl (lv_room (Nat.le_of_ble_eq_true rfl)) dL_law_450 ⟨Nat.le_of_ble_eq_true rfl, Nat.le_of_ble_eq_true rfl⟩) hS (fun q _ h => hFc q h) hFc (fun oz11 u t H1 locs ht hvm gz10 hB hz1 hk1 hS => ?_)
    generalize H1 = H at hS ⊢
    refine W.widen (k := 305) (n := 4995) (Nat.le_of_ble_eq_true rfl) (Nat.le_of_ble_eq_true rfl) ?_
    rcases gz10 with ⟨rfl, cz12, cz13⟩ | ⟨rfl, cz14, cz15⟩ | ⟨rfl, cz16⟩
    · skip
      refine lv_icmp_eq (tgt := 2293) hx hb dL_law_453 (by decide) (fun cz17 => ?_) (fun cz17 => ?_)
      · skip
        exact law_end (dC := dC) (dI := dI) (Nat.le_of_eq hL6) C0 A hAe (q 0) (r 0) H locs hS ls hl
      · skip
        exact absurd cz17 (by decide)
    · skip
      have z0 : ¬ (xs 1).toInt = (0 : Int) := fun h9 => cz4 (zi_eq.mpr h9)
      have z1 : ¬ (xs 1).toInt = (1 : Int) := fun h9 => cz5 (zi_eq.mpr h9)
      have z2 : ¬ (xs 1).toInt = (0 : Int) := fun h9 => cz14 (zi_eq.mpr h9)
      have z3 : (xs 1).toInt = (1 : Int) := zi_eq.mp cz15
      omega
    · skip
      have z0 : ¬ (xs 1).toInt = (0 : Int) := fun h9 => cz4 (zi_eq.mpr h9)
      have z1 : ¬ (xs 1).toInt = (1 : Int) := fun h9 => cz5 (zi_eq.mpr h9)
      have z2 : (xs 1).toInt = (0 : Int) := zi_eq.mp cz16
      omega
  · skip
    refine lv_aload_n hx hb dL_law_444 rfl (lv_at hl 2 rfl) ?_
    refine lv_aload_n hx hb dL_law_445 rfl (lv_at hl 0 rfl) ?_
    refine lv_iload_n hx hb dL_law_446 rfl (lv_at hl 3 rfl) ?_
    refine lv_iconst (v := 1) hx hb dL_law_447 (by decide) ?_
    refine lv_iadd hx hb dL_law_448 ?_
    refine lv_topi (fun xz18 exz18 => ?_)
    obtain rfl : xz18 = 1 := exz18.trans (by decide)
    refine va_sld hx hb hX hbl hbA hS (by rw [hL6]; unfold vp_in; decide) dL_law_449 ?_
    refine W.eq (g2 := F0 m 450 ls [.int (xs 1), .ref (r 0), .int (-1)]) rfl ?_
    have hPc := hP.sub (ws' := [((r 0), .inr (12, [.int 0, .ref (r 1), .ref (r 2), .ref (r 3), .ref (r 4), .ref (r 5), .int 0, .int 0, .int 0, .int 0, .int 0, .long 0, .int 0, .int 0, .int 0, .int (-1), .ref (r 6), .ref (r 7), .ref (r 8), .ref (r 9), .ref (r 10), .ref (r 11), .ref (r 12), .ref (r 13), .int 0, .int 0, .int 0, .ref (r 14), .ref (r 15), .ref (r 16), .ref (r 17), .ref (r 18), .ref (r 19), .ref (r 20), .ref (r 21), .ref (r 22), .ref (r 23), .ref (r 24), .ref (r 25), .ref (r 26), .ref (r 27), .ref (r 28), .ref (r 29), .int 0, .int 0, .int 0, .ref (r 30), .int 0, .int 0, .int 0, .int 0, .int 0, .int 0, .ref (r 31), .int 0, .int 0, .int 0, .ref (r 32), .ref (r 33)]))]) [78] rfl
    have hKc := hK.sub (tys' := []) [] rfl
    have hDc := hD.sub (ws' := [((r 0), .inr (12, [.int 0, .ref (r 1), .ref (r 2), .ref (r 3), .ref (r 4), .ref (r 5), .int 0, .int 0, .int 0, .int 0, .int 0, .long 0, .int 0, .int 0, .int 0, .int (-1), .ref (r 6), .ref (r 7), .ref (r 8), .ref (r 9), .ref (r 10), .ref (r 11), .ref (r 12), .ref (r 13), .int 0, .int 0, .int 0, .ref (r 14), .ref (r 15), .ref (r 16), .ref (r 17), .ref (r 18), .ref (r 19), .ref (r 20), .ref (r 21), .ref (r 22), .ref (r 23), .ref (r 24), .ref (r 25), .ref (r 26), .ref (r 27), .ref (r 28), .ref (r 29), .int 0, .int 0, .int 0, .ref (r 30), .int 0, .int 0, .int 0, .int 0, .int 0, .int 0, .ref (r 31), .int 0, .int 0, .int 0, .ref (r 32), .ref (r 33)]))]) [78] (by decide) rfl
    have hFc := va_free (wc := [((r 0), .inr (12, [.int 0, .ref (r 1), .ref (r 2), .ref (r 3), .ref (r 4), .ref (r 5), .int 0, .int 0, .int 0, .int 0, .int 0, .long 0, .int 0, .int 0, .int 0, .int (-1), .ref (r 6), .ref (r 7), .ref (r 8), .ref (r 9), .ref (r 10), .ref (r 11), .ref (r 12), .ref (r 13), .int 0, .int 0, .int 0, .ref (r 14), .ref (r 15), .ref (r 16), .ref (r 17), .ref (r 18), .ref (r 19), .ref (r 20), .ref (r 21), .ref (r 22), .ref (r 23), .ref (r 24), .ref (r 25), .ref (r 26), .ref (r 27), .ref (r 28), .ref (r 29), .int 0, .int 0, .int 0, .ref (r 30), .int 0, .int 0, .int 0, .int 0, .int 0, .int 0, .ref (r 31), .int 0, .int 0, .int 0, .ref (r 32), .ref (r 33)]))]) hD hS hA [78] rfl
    refine va_calli (va_runV (As := [.int (xs 1)]) (rest := [.int (-1)]) ⟨hx, hb, hml, hown, hts⟩ (f_X12_fault l dC dI H.size ((r 0)) ((r 1)) ((r 2)) ((r 3)) ((r 4)) ((r 5)) ((r 6)) ((r 7)) ((r 8)) ((r 9)) ((r 10)) ((r 11)) ((r 12)) ((r 13)) ((r 14)) ((r 15)) ((r 16)) ((r 17)) ((r 18)) ((r 19)) ((r 20)) ((r 21)) ((r 22)) ((r 23)) ((r 24)) ((r 25)) ((r 26)) ((r 27)) ((r 28)) ((r 29)) ((r 30)) ((r 31)) ((r 32)) ((r 33)) ((xs 1))) (cwV 1 hts (gk_V tw_719 tw_720 tw_721 tw_505 wki_f_X12_fault wkg_f_X12_fault) rfl rfl rfl (by decide +kernel) ⟨Nat.le_of_ble_eq_true rfl, Nat.le_of_ble_eq_true rfl⟩) ⟨fun a U g mk q => by obtain ⟨q0, q1, qP, qK, qD⟩ := q; exact ⟨q0, q1, qP, va_K.moved (u := U) (U := U.calling g mk a) (Vm.Alike.refl U.vm) qK, qD⟩, va_recv hKc hPc (ci := 12) (q0 := 0) rfl rfl, fun U hU hW => ⟨rfl, by rw [hU], by rw [hU]; exact hPc, va_K.moved hW.alike hKc, hDc.weaken (fun _ _ _ _ => trivial)⟩⟩ rfl rfl hl.1 rfl (lv_room (Nat.le_of_ble_eq_true rfl)) dL_law_450 ⟨Nat.le_of_ble_eq_true rfl, Nat.le_of_ble_eq_true rfl⟩) hS (fun q _ h => hFc q h) hFc (fun oz20 u t H1 locs ht hvm gz19 hB hz1 hk1 hS => ?_)
    generalize H1 = H at hS ⊢
    refine W.widen (k := 305) (n := 4995) (Nat.le_of_ble_eq_true rfl) (Nat.le_of_ble_eq_true rfl) ?_
    rcases gz19 with ⟨rfl, cz21, cz22⟩ | ⟨rfl, cz23, cz24⟩ | ⟨rfl, cz25⟩
    · skip
      have z0 : ¬ (xs 1).toInt = (0 : Int) := fun h9 => cz6 (zi_eq.mpr h9)
      have z1 : (xs 1).toInt = (1 : Int) := zi_eq.mp cz7
      have z2 : ¬ (xs 1).toInt = (0 : Int) := fun h9 => cz21 (zi_eq.mpr h9)
      have z3 : ¬ (xs 1).toInt = (1 : Int) := fun h9 => cz22 (zi_eq.mpr h9)
      omega
    · skip
      refine lv_icmp_eq (tgt := 2293) hx hb dL_law_453 (by decide) (fun cz26 => ?_) (fun cz26 => ?_)
      · skip
        exact law_end (dC := dC) (dI := dI) (Nat.le_of_eq hL6) C0 A hAe (q 0) (r 0) H locs hS ls hl
      · skip
        exact absurd cz26 (by decide)
    · skip
      have z0 : ¬ (xs 1).toInt = (0 : Int) := fun h9 => cz6 (zi_eq.mpr h9)
      have z1 : (xs 1).toInt = (1 : Int) := zi_eq.mp cz7
      have z2 : (xs 1).toInt = (0 : Int) := zi_eq.mp cz25
      omega
  · skip
    refine lv_aload_n hx hb dL_law_444 rfl (lv_at hl 2 rfl) ?_
    refine lv_aload_n hx hb dL_law_445 rfl (lv_at hl 0 rfl) ?_
    refine lv_iload_n hx hb dL_law_446 rfl (lv_at hl 3 rfl) ?_
    refine lv_iconst (v := 1) hx hb dL_law_447 (by decide) ?_
    refine lv_iadd hx hb dL_law_448 ?_
    refine lv_topi (fun xz27 exz27 => ?_)
    obtain rfl : xz27 = 1 := exz27.trans (by decide)
    refine va_sld hx hb hX hbl hbA hS (by rw [hL6]; unfold vp_in; decide) dL_law_449 ?_
    refine W.eq (g2 := F0 m 450 ls [.int (xs 1), .ref (r 0), .int 0]) rfl ?_
    have hPc := hP.sub (ws' := [((r 0), .inr (12, [.int 0, .ref (r 1), .ref (r 2), .ref (r 3), .ref (r 4), .ref (r 5), .int 0, .int 0, .int 0, .int 0, .int 0, .long 0, .int 0, .int 0, .int 0, .int (-1), .ref (r 6), .ref (r 7), .ref (r 8), .ref (r 9), .ref (r 10), .ref (r 11), .ref (r 12), .ref (r 13), .int 0, .int 0, .int 0, .ref (r 14), .ref (r 15), .ref (r 16), .ref (r 17), .ref (r 18), .ref (r 19), .ref (r 20), .ref (r 21), .ref (r 22), .ref (r 23), .ref (r 24), .ref (r 25), .ref (r 26), .ref (r 27), .ref (r 28), .ref (r 29), .int 0, .int 0, .int 0, .ref (r 30), .int 0, .int 0, .int 0, .int 0, .int 0, .int 0, .ref (r 31), .int 0, .int 0, .int 0, .ref (r 32), .ref (r 33)]))]) [78] rfl
    have hKc := hK.sub (tys' := []) [] rfl
    have hDc := hD.sub (ws' := [((r 0), .inr (12, [.int 0, .ref (r 1), .ref (r 2), .ref (r 3), .ref (r 4), .ref (r 5), .int 0, .int 0, .int 0, .int 0, .int 0, .long 0, .int 0, .int 0, .int 0, .int (-1), .ref (r 6), .ref (r 7), .ref (r 8), .ref (r 9), .ref (r 10), .ref (r 11), .ref (r 12), .ref (r 13), .int 0, .int 0, .int 0, .ref (r 14), .ref (r 15), .ref (r 16), .ref (r 17), .ref (r 18), .ref (r 19), .ref (r 20), .ref (r 21), .ref (r 22), .ref (r 23), .ref (r 24), .ref (r 25), .ref (r 26), .ref (r 27), .ref (r 28), .ref (r 29), .int 0, .int 0, .int 0, .ref (r 30), .int 0, .int 0, .int 0, .int 0, .int 0, .int 0, .ref (r 31), .int 0, .int 0, .int 0, .ref (r 32), .ref (r 33)]))]) [78] (by decide) rfl
    have hFc := va_free (wc := [((r 0), .inr (12, [.int 0, .ref (r 1), .ref (r 2), .ref (r 3), .ref (r 4), .ref (r 5), .int 0, .int 0, .int 0, .int 0, .int 0, .long 0, .int 0, .int 0, .int 0, .int (-1), .ref (r 6), .ref (r 7), .ref (r 8), .ref (r 9), .ref (r 10), .ref (r 11), .ref (r 12), .ref (r 13), .int 0, .int 0, .int 0, .ref (r 14), .ref (r 15), .ref (r 16), .ref (r 17), .ref (r 18), .ref (r 19), .ref (r 20), .ref (r 21), .ref (r 22), .ref (r 23), .ref (r 24), .ref (r 25), .ref (r 26), .ref (r 27), .ref (r 28), .ref (r 29), .int 0, .int 0, .int 0, .ref (r 30), .int 0, .int 0, .int 0, .int 0, .int 0, .int 0, .ref (r 31), .int 0, .int 0, .int 0, .ref (r 32), .ref (r 33)]))]) hD hS hA [78] rfl
    refine va_calli (va_runV (As := [.int (xs 1)]) (rest := [.int 0]) ⟨hx, hb, hml, hown, hts⟩ (f_X12_fault l dC dI H.size ((r 0)) ((r 1)) ((r 2)) ((r 3)) ((r 4)) ((r 5)) ((r 6)) ((r 7)) ((r 8)) ((r 9)) ((r 10)) ((r 11)) ((r 12)) ((r 13)) ((r 14)) ((r 15)) ((r 16)) ((r 17)) ((r 18)) ((r 19)) ((r 20)) ((r 21)) ((r 22)) ((r 23)) ((r 24)) ((r 25)) ((r 26)) ((r 27)) ((r 28)) ((r 29)) ((r 30)) ((r 31)) ((r 32)) ((r 33)) ((xs 1))) (cwV 1 hts (gk_V tw_719 tw_720 tw_721 tw_505 wki_f_X12_fault wkg_f_X12_fault) rfl rfl rfl (by decide +kernel) ⟨Nat.le_of_ble_eq_true rfl, Nat.le_of_ble_eq_true rfl⟩) ⟨fun a U g mk q => by obtain ⟨q0, q1, qP, qK, qD⟩ := q; exact ⟨q0, q1, qP, va_K.moved (u := U) (U := U.calling g mk a) (Vm.Alike.refl U.vm) qK, qD⟩, va_recv hKc hPc (ci := 12) (q0 := 0) rfl rfl, fun U hU hW => ⟨rfl, by rw [hU], by rw [hU]; exact hPc, va_K.moved hW.alike hKc, hDc.weaken (fun _ _ _ _ => trivial)⟩⟩ rfl rfl hl.1 rfl (lv_room (Nat.le_of_ble_eq_true rfl)) dL_law_450 ⟨Nat.le_of_ble_eq_true rfl, Nat.le_of_ble_eq_true rfl⟩) hS (fun q _ h => hFc q h) hFc (fun oz29 u t H1 locs ht hvm gz28 hB hz1 hk1 hS => ?_)
    generalize H1 = H at hS ⊢
    refine W.widen (k := 305) (n := 4995) (Nat.le_of_ble_eq_true rfl) (Nat.le_of_ble_eq_true rfl) ?_
    rcases gz28 with ⟨rfl, cz30, cz31⟩ | ⟨rfl, cz32, cz33⟩ | ⟨rfl, cz34⟩
    · skip
      have z0 : (xs 1).toInt = (0 : Int) := zi_eq.mp cz8
      have z1 : ¬ (xs 1).toInt = (0 : Int) := fun h9 => cz30 (zi_eq.mpr h9)
      omega
    · skip
      have z0 : (xs 1).toInt = (0 : Int) := zi_eq.mp cz8
      have z1 : ¬ (xs 1).toInt = (0 : Int) := fun h9 => cz32 (zi_eq.mpr h9)
      omega
    · skip
      refine lv_icmp_eq (tgt := 2293) hx hb dL_law_453 (by decide) (fun cz35 => ?_) (fun cz35 => ?_)
      · skip
        exact law_end (dC := dC) (dI := dI) (Nat.le_of_eq hL6) C0 A hAe (q 0) (r 0) H locs hS ls hl
      · skip
        exact absurd cz35 (by decide)
set_option maxHeartbeats 4000000 in
set_option maxRecDepth 100000 in
theorem law_case_4 {p : Program} {l : Launch} {e : Env} {s : State} {m : MethodId} {below : List Frame} {meth : Method} {c : Code} {dC : Nat → ClassId} {dI : Nat → Nat → Nat} {b L : Nat} {xs : Nat → Int32} (hL6 : L = 6) (C0 : lw_At p s m meth c b L xs) (A : Nat → Prop) (hAe : A = fun q => s.heap.size ≤ q) (q r : Nat → Nat) (k j : Nat → ClassId) (H : Heap) (locs : List Loc) (hK : va_K (dC, dI) vwCl (tX k ++ tM j) s) (hP : va_P (dC, dI) vwCl (wX q k ++ wM r j) H) (hD : va_D A (wX q k ++ wM r j)) (hS : va_S A s.heap H locs) (ls : Array Slot) (hl : lv_has ls 4 [(0, .ref b), (1, .ref (q 0)), (2, .ref (r 0)), (3, .int 0)]) : W p l e room_1 s m #[Value.ref b] below meth c H locs 305 4995 (lw_Z below #[Value.ref b] s) (F0 m 458 ls []) := by
  obtain ⟨hx, hb, hr, hml, hown, hts, hX, hbl, hlocks, hgv⟩ := id C0
  have hown : s.vm.findClass RL = some m.cls := hown
  have hA : ∀ q : Nat, s.heap.size ≤ q → A q := by rw [hAe]; exact fun _ h => h
  have hbA : ¬ A b := by rw [hAe]; exact Nat.not_le.mpr hbl
  refine lv_aload_n hx hb dL_law_458 rfl (lv_at hl 1 rfl) ?_
  refine lv_aload_n hx hb dL_law_459 rfl (lv_at hl 0 rfl) ?_
  refine lv_iload_n hx hb dL_law_460 rfl (lv_at hl 3 rfl) ?_
  refine lv_iconst (v := 1) hx hb dL_law_461 (by decide) ?_
  refine lv_iadd hx hb dL_law_462 ?_
  refine lv_topi (fun xz1 exz1 => ?_)
  obtain rfl : xz1 = 1 := exz1.trans (by decide)
  refine va_sld hx hb hX hbl hbA hS (by rw [hL6]; unfold vp_in; decide) dL_law_463 ?_
  refine W.eq (g2 := F0 m 464 ls [.int (xs 1), .ref (q 0)]) rfl ?_
  refine lv_aload_n hx hb dL_law_464 rfl (lv_at hl 0 rfl) ?_
  refine lv_iload_n hx hb dL_law_465 rfl (lv_at hl 3 rfl) ?_
  refine lv_iconst (v := 2) hx hb dL_law_466 (by decide) ?_
  refine lv_iadd hx hb dL_law_467 ?_
  refine lv_topi (fun xz2 exz2 => ?_)
  obtain rfl : xz2 = 2 := exz2.trans (by decide)
  refine va_sld hx hb hX hbl hbA hS (by rw [hL6]; unfold vp_in; decide) dL_law_468 ?_
  refine W.eq (g2 := F0 m 469 ls [.int (xs 2), .int (xs 1), .ref (q 0)]) rfl ?_
  have hPc := hP.sub (ws' := [((q 0), .inr (11, [.ref (q 1), .ref (q 2), .ref (q 3), .ref (q 4), .ref (q 5), .ref (q 6), .ref (q 7), .ref (q 8), .ref (q 9), .ref (q 10), .ref (q 11), .ref (q 12), .ref (q 13), .ref (q 14), .ref (q 15)])), ((q 2), .inr (10, [.ref (q 25), .ref (q 26), .ref (q 27), .ref (q 28), .ref (q 29), .ref (q 30), .ref (q 31), .int 0, .int 0, .int 0, .int 0, .int 0, .int 0, .int 0, .int 0, .int 0]))]) [0, 11] rfl
  have hKc := hK.sub (tys' := []) [] rfl
  refine vp_callSi (va_Run.run (va_runV (As := [.int (xs 1), .int (xs 2)]) (rest := []) ⟨hx, hb, hml, hown, hts⟩ (f_X11_bridge l dC dI ((q 0)) ((q 1)) ((q 2)) ((q 3)) ((q 4)) ((q 5)) ((q 6)) ((q 7)) ((q 8)) ((q 9)) ((q 10)) ((q 11)) ((q 12)) ((q 13)) ((q 14)) ((q 15)) ((q 25)) ((q 26)) ((q 27)) ((q 28)) ((q 29)) ((q 30)) ((q 31)) ((xs 1)) ((xs 2))) (cwV 2 hts (gk_V tw_722 tw_723 tw_724 tw_157 wki_f_X11_bridge wkg_f_X11_bridge) rfl rfl rfl (by decide +kernel) ⟨Nat.le_of_ble_eq_true rfl, Nat.le_of_ble_eq_true rfl⟩) ⟨fun a U g mk q => by obtain ⟨q0, qP, qK⟩ := q; exact ⟨q0, qP, va_K.moved (u := U) (U := U.calling g mk a) (Vm.Alike.refl U.vm) qK⟩, va_recv hKc hPc (ci := 11) (q0 := 0) rfl rfl, fun U hU hW => ⟨rfl, by rw [hU]; exact hPc, va_K.moved hW.alike hKc⟩⟩ rfl rfl hl.1 rfl (lv_room (Nat.le_of_ble_eq_true rfl)) dL_law_469 ⟨Nat.le_of_ble_eq_true rfl, Nat.le_of_ble_eq_true rfl⟩)) (fun oz4 gz3 => ?_)
  obtain rfl := gz3
  refine lv_aload_n hx hb dL_law_472 rfl (lv_at hl 2 rfl) ?_
  refine lv_aload_n hx hb dL_law_473 rfl (lv_at hl 0 rfl) ?_
  refine lv_iload_n hx hb dL_law_474 rfl (lv_at hl 3 rfl) ?_
  refine lv_iconst (v := 1) hx hb dL_law_475 (by decide) ?_
  refine lv_iadd hx hb dL_law_476 ?_
  refine lv_topi (fun xz5 exz5 => ?_)
  obtain rfl : xz5 = 1 := exz5.trans (by decide)
  refine va_sld hx hb hX hbl hbA hS (by rw [hL6]; unfold vp_in; decide) dL_law_477 ?_
  refine W.eq (g2 := F0 m 478 ls [.int (xs 1), .ref (r 0), .int (-2)]) rfl ?_
  refine lv_aload_n hx hb dL_law_478 rfl (lv_at hl 0 rfl) ?_
  refine lv_iload_n hx hb dL_law_479 rfl (lv_at hl 3 rfl) ?_
  refine lv_iconst (v := 2) hx hb dL_law_480 (by decide) ?_
  refine lv_iadd hx hb dL_law_481 ?_
  refine lv_topi (fun xz6 exz6 => ?_)
  obtain rfl : xz6 = 2 := exz6.trans (by decide)
  refine va_sld hx hb hX hbl hbA hS (by rw [hL6]; unfold vp_in; decide) dL_law_482 ?_
  refine W.eq (g2 := F0 m 483 ls [.int (xs 2), .int (xs 1), .ref (r 0), .int (-2)]) rfl ?_
  have hPc := hP.sub (ws' := [((r 0), .inr (12, [.int 0, .ref (r 1), .ref (r 2), .ref (r 3), .ref (r 4), .ref (r 5), .int 0, .int 0, .int 0, .int 0, .int 0, .long 0, .int 0, .int 0, .int 0, .int (-1), .ref (r 6), .ref (r 7), .ref (r 8), .ref (r 9), .ref (r 10), .ref (r 11), .ref (r 12), .ref (r 13), .int 0, .int 0, .int 0, .ref (r 14), .ref (r 15), .ref (r 16), .ref (r 17), .ref (r 18), .ref (r 19), .ref (r 20), .ref (r 21), .ref (r 22), .ref (r 23), .ref (r 24), .ref (r 25), .ref (r 26), .ref (r 27), .ref (r 28), .ref (r 29), .int 0, .int 0, .int 0, .ref (r 30), .int 0, .int 0, .int 0, .int 0, .int 0, .int 0, .ref (r 31), .int 0, .int 0, .int 0, .ref (r 32), .ref (r 33)])), ((r 6), .inl ((j 4), 5, .inl (fun _ => 0))), ((r 7), .inl ((j 5), 40, .inl (fun _ => 0)))]) [78, 83, 84] rfl
  have hKc := hK.sub (tys' := [((j 4), .int), ((j 5), .int)]) [60, 61] rfl
  have hDc := hD.sub (ws' := [((r 0), .inr (12, [.int 0, .ref (r 1), .ref (r 2), .ref (r 3), .ref (r 4), .ref (r 5), .int 0, .int 0, .int 0, .int 0, .int 0, .long 0, .int 0, .int 0, .int 0, .int (-1), .ref (r 6), .ref (r 7), .ref (r 8), .ref (r 9), .ref (r 10), .ref (r 11), .ref (r 12), .ref (r 13), .int 0, .int 0, .int 0, .ref (r 14), .ref (r 15), .ref (r 16), .ref (r 17), .ref (r 18), .ref (r 19), .ref (r 20), .ref (r 21), .ref (r 22), .ref (r 23), .ref (r 24), .ref (r 25), .ref (r 26), .ref (r 27), .ref (r 28), .ref (r 29), .int 0, .int 0, .int 0, .ref (r 30), .int 0, .int 0, .int 0, .int 0, .int 0, .int 0, .ref (r 31), .int 0, .int 0, .int 0, .ref (r 32), .ref (r 33)])), ((r 6), .inl ((j 4), 5, .inl (fun _ => 0))), ((r 7), .inl ((j 5), 40, .inl (fun _ => 0)))]) [78, 83, 84] (by decide) rfl
  have hFc := va_free (wc := [((r 0), .inr (12, [.int 0, .ref (r 1), .ref (r 2), .ref (r 3), .ref (r 4), .ref (r 5), .int 0, .int 0, .int 0, .int 0, .int 0, .long 0, .int 0, .int 0, .int 0, .int (-1), .ref (r 6), .ref (r 7), .ref (r 8), .ref (r 9), .ref (r 10), .ref (r 11), .ref (r 12), .ref (r 13), .int 0, .int 0, .int 0, .ref (r 14), .ref (r 15), .ref (r 16), .ref (r 17), .ref (r 18), .ref (r 19), .ref (r 20), .ref (r 21), .ref (r 22), .ref (r 23), .ref (r 24), .ref (r 25), .ref (r 26), .ref (r 27), .ref (r 28), .ref (r 29), .int 0, .int 0, .int 0, .ref (r 30), .int 0, .int 0, .int 0, .int 0, .int 0, .int 0, .ref (r 31), .int 0, .int 0, .int 0, .ref (r 32), .ref (r 33)])), ((r 6), .inl ((j 4), 5, .inl (fun _ => 0))), ((r 7), .inl ((j 5), 40, .inl (fun _ => 0)))]) hD hS hA [78, 83, 84] rfl
  refine va_calli (va_runV (As := [.int (xs 1), .int (xs 2)]) (rest := [.int (-2)]) ⟨hx, hb, hml, hown, hts⟩ (f_X12_bridge l dC dI H.size ((r 0)) ((r 1)) ((r 2)) ((r 3)) ((r 4)) ((r 5)) ((r 6)) ((r 7)) ((r 8)) ((r 9)) ((r 10)) ((r 11)) ((r 12)) ((r 13)) ((r 14)) ((r 15)) ((r 16)) ((r 17)) ((r 18)) ((r 19)) ((r 20)) ((r 21)) ((r 22)) ((r 23)) ((r 24)) ((r 25)) ((r 26)) ((r 27)) ((r 28)) ((r 29)) ((r 30)) ((r 31)) ((r 32)) ((r 33)) ((j 4)) ((j 5)) ((xs 1)) ((xs 2))) (cwV 2 hts (gk_V tw_725 tw_726 tw_727 tw_505 wki_f_X12_bridge wkg_f_X12_bridge) rfl rfl rfl (by decide +kernel) ⟨Nat.le_of_ble_eq_true rfl, Nat.le_of_ble_eq_true rfl⟩) ⟨fun a U g mk q => by obtain ⟨q0, q1, qP, qK, qD⟩ := q; exact ⟨q0, q1, qP, va_K.moved (u := U) (U := U.calling g mk a) (Vm.Alike.refl U.vm) qK, qD⟩, va_recv hKc hPc (ci := 12) (q0 := 0) rfl rfl, fun U hU hW => ⟨rfl, by rw [hU], by rw [hU]; exact hPc, va_K.moved hW.alike hKc, hDc.weaken (fun _ _ _ _ => trivial)⟩⟩ rfl rfl hl.1 rfl (lv_room (Nat.le_of_ble_eq_true rfl)) dL_law_483 ⟨Nat.le_of_ble_eq_true rfl, Nat.le_of_ble_eq_true rfl⟩) hS (fun q _ h => hFc q h) hFc (fun oz8 u t H1 locs ht hvm gz7 hB hz1 hk1 hS => ?_)
  generalize H1 = H at hS ⊢
  refine W.widen (k := 305) (n := 4995) (Nat.le_of_ble_eq_true rfl) (Nat.le_of_ble_eq_true rfl) ?_
  obtain rfl := gz7
  refine lv_icmp_eq (tgt := 2293) hx hb dL_law_486 (by decide) (fun cz9 => ?_) (fun cz9 => ?_)
  · skip
    exact law_end (dC := dC) (dI := dI) (Nat.le_of_eq hL6) C0 A hAe (q 0) (r 0) H locs hS ls hl
  · skip
    exact absurd cz9 (by decide)
set_option maxHeartbeats 4000000 in
set_option maxRecDepth 100000 in
theorem law_case_5 {p : Program} {l : Launch} {e : Env} {s : State} {m : MethodId} {below : List Frame} {meth : Method} {c : Code} {dC : Nat → ClassId} {dI : Nat → Nat → Nat} {b L : Nat} {xs : Nat → Int32} (hL6 : L = 6) (C0 : lw_At p s m meth c b L xs) (A : Nat → Prop) (hAe : A = fun q => s.heap.size ≤ q) (q r : Nat → Nat) (k j : Nat → ClassId) (H : Heap) (locs : List Loc) (hK : va_K (dC, dI) vwCl (tX k ++ tM j) s) (hP : va_P (dC, dI) vwCl (wX q k ++ wM r j) H) (hD : va_D A (wX q k ++ wM r j)) (hS : va_S A s.heap H locs) (ls : Array Slot) (hl : lv_has ls 4 [(0, .ref b), (1, .ref (q 0)), (2, .ref (r 0)), (3, .int 0)]) : W p l e room_1 s m #[Value.ref b] below meth c H locs 305 4995 (lw_Z below #[Value.ref b] s) (F0 m 491 ls []) := by
  obtain ⟨hx, hb, hr, hml, hown, hts, hX, hbl, hlocks, hgv⟩ := id C0
  have hown : s.vm.findClass RL = some m.cls := hown
  have hA : ∀ q : Nat, s.heap.size ≤ q → A q := by rw [hAe]; exact fun _ h => h
  have hbA : ¬ A b := by rw [hAe]; exact Nat.not_le.mpr hbl
  refine lv_aload_n hx hb dL_law_491 rfl (lv_at hl 1 rfl) ?_
  refine lv_aload_n hx hb dL_law_492 rfl (lv_at hl 0 rfl) ?_
  refine lv_iload_n hx hb dL_law_493 rfl (lv_at hl 3 rfl) ?_
  refine lv_iconst (v := 1) hx hb dL_law_494 (by decide) ?_
  refine lv_iadd hx hb dL_law_495 ?_
  refine lv_topi (fun xz1 exz1 => ?_)
  obtain rfl : xz1 = 1 := exz1.trans (by decide)
  refine va_sld hx hb hX hbl hbA hS (by rw [hL6]; unfold vp_in; decide) dL_law_496 ?_
  refine W.eq (g2 := F0 m 497 ls [.int (xs 1), .ref (q 0)]) rfl ?_
  refine lv_aload_n hx hb dL_law_497 rfl (lv_at hl 0 rfl) ?_
  refine lv_iload_n hx hb dL_law_498 rfl (lv_at hl 3 rfl) ?_
  refine lv_iconst (v := 2) hx hb dL_law_499 (by decide) ?_
  refine lv_iadd hx hb dL_law_500 ?_
  refine lv_topi (fun xz2 exz2 => ?_)
  obtain rfl : xz2 = 2 := exz2.trans (by decide)
  refine va_sld hx hb hX hbl hbA hS (by rw [hL6]; unfold vp_in; decide) dL_law_501 ?_
  refine W.eq (g2 := F0 m 502 ls [.int (xs 2), .int (xs 1), .ref (q 0)]) rfl ?_
  have hPc := hP.sub (ws' := [((q 0), .inr (11, [.ref (q 1), .ref (q 2), .ref (q 3), .ref (q 4), .ref (q 5), .ref (q 6), .ref (q 7), .ref (q 8), .ref (q 9), .ref (q 10), .ref (q 11), .ref (q 12), .ref (q 13), .ref (q 14), .ref (q 15)])), ((q 2), .inr (10, [.ref (q 25), .ref (q 26), .ref (q 27), .ref (q 28), .ref (q 29), .ref (q 30), .ref (q 31), .int 0, .int 0, .int 0, .int 0, .int 0, .int 0, .int 0, .int 0, .int 0]))]) [0, 11] rfl
  have hKc := hK.sub (tys' := []) [] rfl
  refine vp_callSi (va_Run.run (va_runV (As := [.int (xs 1), .int (xs 2)]) (rest := []) ⟨hx, hb, hml, hown, hts⟩ (f_X11_cart l dC dI ((q 0)) ((q 1)) ((q 2)) ((q 3)) ((q 4)) ((q 5)) ((q 6)) ((q 7)) ((q 8)) ((q 9)) ((q 10)) ((q 11)) ((q 12)) ((q 13)) ((q 14)) ((q 15)) ((q 25)) ((q 26)) ((q 27)) ((q 28)) ((q 29)) ((q 30)) ((q 31)) ((xs 1)) ((xs 2))) (cwV 2 hts (gk_V tw_728 tw_729 tw_730 tw_157 wki_f_X11_cart wkg_f_X11_cart) rfl rfl rfl (by decide +kernel) ⟨Nat.le_of_ble_eq_true rfl, Nat.le_of_ble_eq_true rfl⟩) ⟨fun a U g mk q => by obtain ⟨q0, qP, qK⟩ := q; exact ⟨q0, qP, va_K.moved (u := U) (U := U.calling g mk a) (Vm.Alike.refl U.vm) qK⟩, va_recv hKc hPc (ci := 11) (q0 := 0) rfl rfl, fun U hU hW => ⟨rfl, by rw [hU]; exact hPc, va_K.moved hW.alike hKc⟩⟩ rfl rfl hl.1 rfl (lv_room (Nat.le_of_ble_eq_true rfl)) dL_law_502 ⟨Nat.le_of_ble_eq_true rfl, Nat.le_of_ble_eq_true rfl⟩)) (fun oz4 gz3 => ?_)
  obtain rfl := gz3
  refine lv_aload_n hx hb dL_law_505 rfl (lv_at hl 2 rfl) ?_
  refine lv_aload_n hx hb dL_law_506 rfl (lv_at hl 0 rfl) ?_
  refine lv_iload_n hx hb dL_law_507 rfl (lv_at hl 3 rfl) ?_
  refine lv_iconst (v := 1) hx hb dL_law_508 (by decide) ?_
  refine lv_iadd hx hb dL_law_509 ?_
  refine lv_topi (fun xz5 exz5 => ?_)
  obtain rfl : xz5 = 1 := exz5.trans (by decide)
  refine va_sld hx hb hX hbl hbA hS (by rw [hL6]; unfold vp_in; decide) dL_law_510 ?_
  refine W.eq (g2 := F0 m 511 ls [.int (xs 1), .ref (r 0), .int (-2)]) rfl ?_
  refine lv_aload_n hx hb dL_law_511 rfl (lv_at hl 0 rfl) ?_
  refine lv_iload_n hx hb dL_law_512 rfl (lv_at hl 3 rfl) ?_
  refine lv_iconst (v := 2) hx hb dL_law_513 (by decide) ?_
  refine lv_iadd hx hb dL_law_514 ?_
  refine lv_topi (fun xz6 exz6 => ?_)
  obtain rfl : xz6 = 2 := exz6.trans (by decide)
  refine va_sld hx hb hX hbl hbA hS (by rw [hL6]; unfold vp_in; decide) dL_law_515 ?_
  refine W.eq (g2 := F0 m 516 ls [.int (xs 2), .int (xs 1), .ref (r 0), .int (-2)]) rfl ?_
  have hPc := hP.sub (ws' := [((r 0), .inr (12, [.int 0, .ref (r 1), .ref (r 2), .ref (r 3), .ref (r 4), .ref (r 5), .int 0, .int 0, .int 0, .int 0, .int 0, .long 0, .int 0, .int 0, .int 0, .int (-1), .ref (r 6), .ref (r 7), .ref (r 8), .ref (r 9), .ref (r 10), .ref (r 11), .ref (r 12), .ref (r 13), .int 0, .int 0, .int 0, .ref (r 14), .ref (r 15), .ref (r 16), .ref (r 17), .ref (r 18), .ref (r 19), .ref (r 20), .ref (r 21), .ref (r 22), .ref (r 23), .ref (r 24), .ref (r 25), .ref (r 26), .ref (r 27), .ref (r 28), .ref (r 29), .int 0, .int 0, .int 0, .ref (r 30), .int 0, .int 0, .int 0, .int 0, .int 0, .int 0, .ref (r 31), .int 0, .int 0, .int 0, .ref (r 32), .ref (r 33)])), ((r 6), .inl ((j 4), 5, .inl (fun _ => 0))), ((r 7), .inl ((j 5), 40, .inl (fun _ => 0)))]) [78, 83, 84] rfl
  have hKc := hK.sub (tys' := [((j 4), .int), ((j 5), .int)]) [60, 61] rfl
  have hDc := hD.sub (ws' := [((r 0), .inr (12, [.int 0, .ref (r 1), .ref (r 2), .ref (r 3), .ref (r 4), .ref (r 5), .int 0, .int 0, .int 0, .int 0, .int 0, .long 0, .int 0, .int 0, .int 0, .int (-1), .ref (r 6), .ref (r 7), .ref (r 8), .ref (r 9), .ref (r 10), .ref (r 11), .ref (r 12), .ref (r 13), .int 0, .int 0, .int 0, .ref (r 14), .ref (r 15), .ref (r 16), .ref (r 17), .ref (r 18), .ref (r 19), .ref (r 20), .ref (r 21), .ref (r 22), .ref (r 23), .ref (r 24), .ref (r 25), .ref (r 26), .ref (r 27), .ref (r 28), .ref (r 29), .int 0, .int 0, .int 0, .ref (r 30), .int 0, .int 0, .int 0, .int 0, .int 0, .int 0, .ref (r 31), .int 0, .int 0, .int 0, .ref (r 32), .ref (r 33)])), ((r 6), .inl ((j 4), 5, .inl (fun _ => 0))), ((r 7), .inl ((j 5), 40, .inl (fun _ => 0)))]) [78, 83, 84] (by decide) rfl
  have hFc := va_free (wc := [((r 0), .inr (12, [.int 0, .ref (r 1), .ref (r 2), .ref (r 3), .ref (r 4), .ref (r 5), .int 0, .int 0, .int 0, .int 0, .int 0, .long 0, .int 0, .int 0, .int 0, .int (-1), .ref (r 6), .ref (r 7), .ref (r 8), .ref (r 9), .ref (r 10), .ref (r 11), .ref (r 12), .ref (r 13), .int 0, .int 0, .int 0, .ref (r 14), .ref (r 15), .ref (r 16), .ref (r 17), .ref (r 18), .ref (r 19), .ref (r 20), .ref (r 21), .ref (r 22), .ref (r 23), .ref (r 24), .ref (r 25), .ref (r 26), .ref (r 27), .ref (r 28), .ref (r 29), .int 0, .int 0, .int 0, .ref (r 30), .int 0, .int 0, .int 0, .int 0, .int 0, .int 0, .ref (r 31), .int 0, .int 0, .int 0, .ref (r 32), .ref (r 33)])), ((r 6), .inl ((j 4), 5, .inl (fun _ => 0))), ((r 7), .inl ((j 5), 40, .inl (fun _ => 0)))]) hD hS hA [78, 83, 84] rfl
  refine va_calli (va_runV (As := [.int (xs 1), .int (xs 2)]) (rest := [.int (-2)]) ⟨hx, hb, hml, hown, hts⟩ (f_X12_cart l dC dI H.size ((r 0)) ((r 1)) ((r 2)) ((r 3)) ((r 4)) ((r 5)) ((r 6)) ((r 7)) ((r 8)) ((r 9)) ((r 10)) ((r 11)) ((r 12)) ((r 13)) ((r 14)) ((r 15)) ((r 16)) ((r 17)) ((r 18)) ((r 19)) ((r 20)) ((r 21)) ((r 22)) ((r 23)) ((r 24)) ((r 25)) ((r 26)) ((r 27)) ((r 28)) ((r 29)) ((r 30)) ((r 31)) ((r 32)) ((r 33)) ((j 4)) ((j 5)) ((xs 1)) ((xs 2))) (cwV 2 hts (gk_V tw_731 tw_732 tw_733 tw_505 wki_f_X12_cart wkg_f_X12_cart) rfl rfl rfl (by decide +kernel) ⟨Nat.le_of_ble_eq_true rfl, Nat.le_of_ble_eq_true rfl⟩) ⟨fun a U g mk q => by obtain ⟨q0, q1, qP, qK, qD⟩ := q; exact ⟨q0, q1, qP, va_K.moved (u := U) (U := U.calling g mk a) (Vm.Alike.refl U.vm) qK, qD⟩, va_recv hKc hPc (ci := 12) (q0 := 0) rfl rfl, fun U hU hW => ⟨rfl, by rw [hU], by rw [hU]; exact hPc, va_K.moved hW.alike hKc, hDc.weaken (fun _ _ _ _ => trivial)⟩⟩ rfl rfl hl.1 rfl (lv_room (Nat.le_of_ble_eq_true rfl)) dL_law_516 ⟨Nat.le_of_ble_eq_true rfl, Nat.le_of_ble_eq_true rfl⟩) hS (fun q _ h => hFc q h) hFc (fun oz8 u t H1 locs ht hvm gz7 hB hz1 hk1 hS => ?_)
  generalize H1 = H at hS ⊢
  refine W.widen (k := 305) (n := 4995) (Nat.le_of_ble_eq_true rfl) (Nat.le_of_ble_eq_true rfl) ?_
  obtain rfl := gz7
  refine lv_icmp_eq (tgt := 2293) hx hb dL_law_519 (by decide) (fun cz9 => ?_) (fun cz9 => ?_)
  · skip
    exact law_end (dC := dC) (dI := dI) (Nat.le_of_eq hL6) C0 A hAe (q 0) (r 0) H locs hS ls hl
  · skip
    exact absurd cz9 (by decide)
set_option maxHeartbeats 4000000 in
set_option maxRecDepth 100000 in
theorem law_case_6 {p : Program} {l : Launch} {e : Env} {s : State} {m : MethodId} {below : List Frame} {meth : Method} {c : Code} {dC : Nat → ClassId} {dI : Nat → Nat → Nat} {b L : Nat} {xs : Nat → Int32} (hL6 : L = 6) (C0 : lw_At p s m meth c b L xs) (A : Nat → Prop) (hAe : A = fun q => s.heap.size ≤ q) (q r : Nat → Nat) (k j : Nat → ClassId) (H : Heap) (locs : List Loc) (hK : va_K (dC, dI) vwCl (tX k ++ tM j) s) (hP : va_P (dC, dI) vwCl (wX q k ++ wM r j) H) (hD : va_D A (wX q k ++ wM r j)) (hS : va_S A s.heap H locs) (ls : Array Slot) (hl : lv_has ls 4 [(0, .ref b), (1, .ref (q 0)), (2, .ref (r 0)), (3, .int 0)]) : W p l e room_1 s m #[Value.ref b] below meth c H locs 305 4995 (lw_Z below #[Value.ref b] s) (F0 m 524 ls []) := by
  obtain ⟨hx, hb, hr, hml, hown, hts, hX, hbl, hlocks, hgv⟩ := id C0
  have hown : s.vm.findClass RL = some m.cls := hown
  have hA : ∀ q : Nat, s.heap.size ≤ q → A q := by rw [hAe]; exact fun _ h => h
  have hbA : ¬ A b := by rw [hAe]; exact Nat.not_le.mpr hbl
  refine lv_aload_n hx hb dL_law_524 rfl (lv_at hl 1 rfl) ?_
  refine lv_aload_n hx hb dL_law_525 rfl (lv_at hl 0 rfl) ?_
  refine lv_iload_n hx hb dL_law_526 rfl (lv_at hl 3 rfl) ?_
  refine lv_iconst (v := 1) hx hb dL_law_527 (by decide) ?_
  refine lv_iadd hx hb dL_law_528 ?_
  refine lv_topi (fun xz1 exz1 => ?_)
  obtain rfl : xz1 = 1 := exz1.trans (by decide)
  refine va_sld hx hb hX hbl hbA hS (by rw [hL6]; unfold vp_in; decide) dL_law_529 ?_
  refine W.eq (g2 := F0 m 530 ls [.int (xs 1), .ref (q 0)]) rfl ?_
  refine lv_aload_n hx hb dL_law_530 rfl (lv_at hl 0 rfl) ?_
  refine lv_iload_n hx hb dL_law_531 rfl (lv_at hl 3 rfl) ?_
  refine lv_iconst (v := 2) hx hb dL_law_532 (by decide) ?_
  refine lv_iadd hx hb dL_law_533 ?_
  refine lv_topi (fun xz2 exz2 => ?_)
  obtain rfl : xz2 = 2 := exz2.trans (by decide)
  refine va_sld hx hb hX hbl hbA hS (by rw [hL6]; unfold vp_in; decide) dL_law_534 ?_
  refine W.eq (g2 := F0 m 535 ls [.int (xs 2), .int (xs 1), .ref (q 0)]) rfl ?_
  have hPc := hP.sub (ws' := [((q 0), .inr (11, [.ref (q 1), .ref (q 2), .ref (q 3), .ref (q 4), .ref (q 5), .ref (q 6), .ref (q 7), .ref (q 8), .ref (q 9), .ref (q 10), .ref (q 11), .ref (q 12), .ref (q 13), .ref (q 14), .ref (q 15)])), ((q 2), .inr (10, [.ref (q 25), .ref (q 26), .ref (q 27), .ref (q 28), .ref (q 29), .ref (q 30), .ref (q 31), .int 0, .int 0, .int 0, .int 0, .int 0, .int 0, .int 0, .int 0, .int 0]))]) [0, 11] rfl
  have hKc := hK.sub (tys' := []) [] rfl
  refine vp_callSi (va_Run.run (va_runV (As := [.int (xs 1), .int (xs 2)]) (rest := []) ⟨hx, hb, hml, hown, hts⟩ (f_X11_ward l dC dI ((q 0)) ((q 1)) ((q 2)) ((q 3)) ((q 4)) ((q 5)) ((q 6)) ((q 7)) ((q 8)) ((q 9)) ((q 10)) ((q 11)) ((q 12)) ((q 13)) ((q 14)) ((q 15)) ((q 25)) ((q 26)) ((q 27)) ((q 28)) ((q 29)) ((q 30)) ((q 31)) ((xs 1)) ((xs 2))) (cwV 2 hts (gk_V tw_734 tw_735 tw_736 tw_157 wki_f_X11_ward wkg_f_X11_ward) rfl rfl rfl (by decide +kernel) ⟨Nat.le_of_ble_eq_true rfl, Nat.le_of_ble_eq_true rfl⟩) ⟨fun a U g mk q => by obtain ⟨q0, qP, qK⟩ := q; exact ⟨q0, qP, va_K.moved (u := U) (U := U.calling g mk a) (Vm.Alike.refl U.vm) qK⟩, va_recv hKc hPc (ci := 11) (q0 := 0) rfl rfl, fun U hU hW => ⟨rfl, by rw [hU]; exact hPc, va_K.moved hW.alike hKc⟩⟩ rfl rfl hl.1 rfl (lv_room (Nat.le_of_ble_eq_true rfl)) dL_law_535 ⟨Nat.le_of_ble_eq_true rfl, Nat.le_of_ble_eq_true rfl⟩)) (fun oz4 gz3 => ?_)
  obtain rfl := gz3
  refine lv_aload_n hx hb dL_law_538 rfl (lv_at hl 2 rfl) ?_
  refine lv_aload_n hx hb dL_law_539 rfl (lv_at hl 0 rfl) ?_
  refine lv_iload_n hx hb dL_law_540 rfl (lv_at hl 3 rfl) ?_
  refine lv_iconst (v := 1) hx hb dL_law_541 (by decide) ?_
  refine lv_iadd hx hb dL_law_542 ?_
  refine lv_topi (fun xz5 exz5 => ?_)
  obtain rfl : xz5 = 1 := exz5.trans (by decide)
  refine va_sld hx hb hX hbl hbA hS (by rw [hL6]; unfold vp_in; decide) dL_law_543 ?_
  refine W.eq (g2 := F0 m 544 ls [.int (xs 1), .ref (r 0), .int (-2)]) rfl ?_
  refine lv_aload_n hx hb dL_law_544 rfl (lv_at hl 0 rfl) ?_
  refine lv_iload_n hx hb dL_law_545 rfl (lv_at hl 3 rfl) ?_
  refine lv_iconst (v := 2) hx hb dL_law_546 (by decide) ?_
  refine lv_iadd hx hb dL_law_547 ?_
  refine lv_topi (fun xz6 exz6 => ?_)
  obtain rfl : xz6 = 2 := exz6.trans (by decide)
  refine va_sld hx hb hX hbl hbA hS (by rw [hL6]; unfold vp_in; decide) dL_law_548 ?_
  refine W.eq (g2 := F0 m 549 ls [.int (xs 2), .int (xs 1), .ref (r 0), .int (-2)]) rfl ?_
  have hPc := hP.sub (ws' := [((r 0), .inr (12, [.int 0, .ref (r 1), .ref (r 2), .ref (r 3), .ref (r 4), .ref (r 5), .int 0, .int 0, .int 0, .int 0, .int 0, .long 0, .int 0, .int 0, .int 0, .int (-1), .ref (r 6), .ref (r 7), .ref (r 8), .ref (r 9), .ref (r 10), .ref (r 11), .ref (r 12), .ref (r 13), .int 0, .int 0, .int 0, .ref (r 14), .ref (r 15), .ref (r 16), .ref (r 17), .ref (r 18), .ref (r 19), .ref (r 20), .ref (r 21), .ref (r 22), .ref (r 23), .ref (r 24), .ref (r 25), .ref (r 26), .ref (r 27), .ref (r 28), .ref (r 29), .int 0, .int 0, .int 0, .ref (r 30), .int 0, .int 0, .int 0, .int 0, .int 0, .int 0, .ref (r 31), .int 0, .int 0, .int 0, .ref (r 32), .ref (r 33)])), ((r 6), .inl ((j 4), 5, .inl (fun _ => 0))), ((r 7), .inl ((j 5), 40, .inl (fun _ => 0)))]) [78, 83, 84] rfl
  have hKc := hK.sub (tys' := [((j 4), .int), ((j 5), .int)]) [60, 61] rfl
  have hDc := hD.sub (ws' := [((r 0), .inr (12, [.int 0, .ref (r 1), .ref (r 2), .ref (r 3), .ref (r 4), .ref (r 5), .int 0, .int 0, .int 0, .int 0, .int 0, .long 0, .int 0, .int 0, .int 0, .int (-1), .ref (r 6), .ref (r 7), .ref (r 8), .ref (r 9), .ref (r 10), .ref (r 11), .ref (r 12), .ref (r 13), .int 0, .int 0, .int 0, .ref (r 14), .ref (r 15), .ref (r 16), .ref (r 17), .ref (r 18), .ref (r 19), .ref (r 20), .ref (r 21), .ref (r 22), .ref (r 23), .ref (r 24), .ref (r 25), .ref (r 26), .ref (r 27), .ref (r 28), .ref (r 29), .int 0, .int 0, .int 0, .ref (r 30), .int 0, .int 0, .int 0, .int 0, .int 0, .int 0, .ref (r 31), .int 0, .int 0, .int 0, .ref (r 32), .ref (r 33)])), ((r 6), .inl ((j 4), 5, .inl (fun _ => 0))), ((r 7), .inl ((j 5), 40, .inl (fun _ => 0)))]) [78, 83, 84] (by decide) rfl
  have hFc := va_free (wc := [((r 0), .inr (12, [.int 0, .ref (r 1), .ref (r 2), .ref (r 3), .ref (r 4), .ref (r 5), .int 0, .int 0, .int 0, .int 0, .int 0, .long 0, .int 0, .int 0, .int 0, .int (-1), .ref (r 6), .ref (r 7), .ref (r 8), .ref (r 9), .ref (r 10), .ref (r 11), .ref (r 12), .ref (r 13), .int 0, .int 0, .int 0, .ref (r 14), .ref (r 15), .ref (r 16), .ref (r 17), .ref (r 18), .ref (r 19), .ref (r 20), .ref (r 21), .ref (r 22), .ref (r 23), .ref (r 24), .ref (r 25), .ref (r 26), .ref (r 27), .ref (r 28), .ref (r 29), .int 0, .int 0, .int 0, .ref (r 30), .int 0, .int 0, .int 0, .int 0, .int 0, .int 0, .ref (r 31), .int 0, .int 0, .int 0, .ref (r 32), .ref (r 33)])), ((r 6), .inl ((j 4), 5, .inl (fun _ => 0))), ((r 7), .inl ((j 5), 40, .inl (fun _ => 0)))]) hD hS hA [78, 83, 84] rfl
  refine va_calli (va_runV (As := [.int (xs 1), .int (xs 2)]) (rest := [.int (-2)]) ⟨hx, hb, hml, hown, hts⟩ (f_X12_ward l dC dI H.size ((r 0)) ((r 1)) ((r 2)) ((r 3)) ((r 4)) ((r 5)) ((r 6)) ((r 7)) ((r 8)) ((r 9)) ((r 10)) ((r 11)) ((r 12)) ((r 13)) ((r 14)) ((r 15)) ((r 16)) ((r 17)) ((r 18)) ((r 19)) ((r 20)) ((r 21)) ((r 22)) ((r 23)) ((r 24)) ((r 25)) ((r 26)) ((r 27)) ((r 28)) ((r 29)) ((r 30)) ((r 31)) ((r 32)) ((r 33)) ((j 4)) ((j 5)) ((xs 1)) ((xs 2))) (cwV 2 hts (gk_V tw_737 tw_738 tw_739 tw_505 wki_f_X12_ward wkg_f_X12_ward) rfl rfl rfl (by decide +kernel) ⟨Nat.le_of_ble_eq_true rfl, Nat.le_of_ble_eq_true rfl⟩) ⟨fun a U g mk q => by obtain ⟨q0, q1, qP, qK, qD⟩ := q; exact ⟨q0, q1, qP, va_K.moved (u := U) (U := U.calling g mk a) (Vm.Alike.refl U.vm) qK, qD⟩, va_recv hKc hPc (ci := 12) (q0 := 0) rfl rfl, fun U hU hW => ⟨rfl, by rw [hU], by rw [hU]; exact hPc, va_K.moved hW.alike hKc, hDc.weaken (fun _ _ _ _ => trivial)⟩⟩ rfl rfl hl.1 rfl (lv_room (Nat.le_of_ble_eq_true rfl)) dL_law_549 ⟨Nat.le_of_ble_eq_true rfl, Nat.le_of_ble_eq_true rfl⟩) hS (fun q _ h => hFc q h) hFc (fun oz8 u t H1 locs ht hvm gz7 hB hz1 hk1 hS => ?_)
  generalize H1 = H at hS ⊢
  refine W.widen (k := 305) (n := 4995) (Nat.le_of_ble_eq_true rfl) (Nat.le_of_ble_eq_true rfl) ?_
  obtain rfl := gz7
  refine lv_icmp_eq (tgt := 2293) hx hb dL_law_552 (by decide) (fun cz9 => ?_) (fun cz9 => ?_)
  · skip
    exact law_end (dC := dC) (dI := dI) (Nat.le_of_eq hL6) C0 A hAe (q 0) (r 0) H locs hS ls hl
  · skip
    exact absurd cz9 (by decide)
set_option maxHeartbeats 4000000 in
set_option maxRecDepth 100000 in
theorem law_case_7 {p : Program} {l : Launch} {e : Env} {s : State} {m : MethodId} {below : List Frame} {meth : Method} {c : Code} {dC : Nat → ClassId} {dI : Nat → Nat → Nat} {b L : Nat} {xs : Nat → Int32} (hL6 : L = 6) (C0 : lw_At p s m meth c b L xs) (A : Nat → Prop) (hAe : A = fun q => s.heap.size ≤ q) (q r : Nat → Nat) (k j : Nat → ClassId) (H : Heap) (locs : List Loc) (hK : va_K (dC, dI) vwCl (tX k ++ tM j) s) (hP : va_P (dC, dI) vwCl (wX q k ++ wM r j) H) (hD : va_D A (wX q k ++ wM r j)) (hS : va_S A s.heap H locs) (ls : Array Slot) (hl : lv_has ls 4 [(0, .ref b), (1, .ref (q 0)), (2, .ref (r 0)), (3, .int 0)]) : W p l e room_1 s m #[Value.ref b] below meth c H locs 305 4995 (lw_Z below #[Value.ref b] s) (F0 m 557 ls []) := by
  obtain ⟨hx, hb, hr, hml, hown, hts, hX, hbl, hlocks, hgv⟩ := id C0
  have hown : s.vm.findClass RL = some m.cls := hown
  have hA : ∀ q : Nat, s.heap.size ≤ q → A q := by rw [hAe]; exact fun _ h => h
  have hbA : ¬ A b := by rw [hAe]; exact Nat.not_le.mpr hbl
  refine lv_aload_n hx hb dL_law_557 rfl (lv_at hl 1 rfl) ?_
  refine lv_aload_n hx hb dL_law_558 rfl (lv_at hl 0 rfl) ?_
  refine lv_iload_n hx hb dL_law_559 rfl (lv_at hl 3 rfl) ?_
  refine lv_iconst (v := 1) hx hb dL_law_560 (by decide) ?_
  refine lv_iadd hx hb dL_law_561 ?_
  refine lv_topi (fun xz1 exz1 => ?_)
  obtain rfl : xz1 = 1 := exz1.trans (by decide)
  refine va_sld hx hb hX hbl hbA hS (by rw [hL6]; unfold vp_in; decide) dL_law_562 ?_
  refine W.eq (g2 := F0 m 563 ls [.int (xs 1), .ref (q 0)]) rfl ?_
  have hPc := hP.sub (ws' := [((q 0), .inr (11, [.ref (q 1), .ref (q 2), .ref (q 3), .ref (q 4), .ref (q 5), .ref (q 6), .ref (q 7), .ref (q 8), .ref (q 9), .ref (q 10), .ref (q 11), .ref (q 12), .ref (q 13), .ref (q 14), .ref (q 15)])), ((q 2), .inr (10, [.ref (q 25), .ref (q 26), .ref (q 27), .ref (q 28), .ref (q 29), .ref (q 30), .ref (q 31), .int 0, .int 0, .int 0, .int 0, .int 0, .int 0, .int 0, .int 0, .int 0]))]) [0, 11] rfl
  have hKc := hK.sub (tys' := []) [] rfl
  refine vp_callSi (va_Run.run (va_runV (As := [.int (xs 1)]) (rest := []) ⟨hx, hb, hml, hown, hts⟩ (f_X11_cold l dC dI ((q 0)) ((q 1)) ((q 2)) ((q 3)) ((q 4)) ((q 5)) ((q 6)) ((q 7)) ((q 8)) ((q 9)) ((q 10)) ((q 11)) ((q 12)) ((q 13)) ((q 14)) ((q 15)) ((q 25)) ((q 26)) ((q 27)) ((q 28)) ((q 29)) ((q 30)) ((q 31)) ((xs 1))) (cwV 1 hts (gk_V tw_740 tw_741 tw_742 tw_157 wki_f_X11_cold wkg_f_X11_cold) rfl rfl rfl (by decide +kernel) ⟨Nat.le_of_ble_eq_true rfl, Nat.le_of_ble_eq_true rfl⟩) ⟨fun a U g mk q => by obtain ⟨q0, qP, qK⟩ := q; exact ⟨q0, qP, va_K.moved (u := U) (U := U.calling g mk a) (Vm.Alike.refl U.vm) qK⟩, va_recv hKc hPc (ci := 11) (q0 := 0) rfl rfl, fun U hU hW => ⟨rfl, by rw [hU]; exact hPc, va_K.moved hW.alike hKc⟩⟩ rfl rfl hl.1 rfl (lv_room (Nat.le_of_ble_eq_true rfl)) dL_law_563 ⟨Nat.le_of_ble_eq_true rfl, Nat.le_of_ble_eq_true rfl⟩)) (fun oz3 gz2 => ?_)
  obtain rfl := gz2
  refine lv_aload_n hx hb dL_law_566 rfl (lv_at hl 2 rfl) ?_
  refine lv_aload_n hx hb dL_law_567 rfl (lv_at hl 0 rfl) ?_
  refine lv_iload_n hx hb dL_law_568 rfl (lv_at hl 3 rfl) ?_
  refine lv_iconst (v := 1) hx hb dL_law_569 (by decide) ?_
  refine lv_iadd hx hb dL_law_570 ?_
  refine lv_topi (fun xz4 exz4 => ?_)
  obtain rfl : xz4 = 1 := exz4.trans (by decide)
  refine va_sld hx hb hX hbl hbA hS (by rw [hL6]; unfold vp_in; decide) dL_law_571 ?_
  refine W.eq (g2 := F0 m 572 ls [.int (xs 1), .ref (r 0), .int (-2)]) rfl ?_
  have hPc := hP.sub (ws' := [((r 0), .inr (12, [.int 0, .ref (r 1), .ref (r 2), .ref (r 3), .ref (r 4), .ref (r 5), .int 0, .int 0, .int 0, .int 0, .int 0, .long 0, .int 0, .int 0, .int 0, .int (-1), .ref (r 6), .ref (r 7), .ref (r 8), .ref (r 9), .ref (r 10), .ref (r 11), .ref (r 12), .ref (r 13), .int 0, .int 0, .int 0, .ref (r 14), .ref (r 15), .ref (r 16), .ref (r 17), .ref (r 18), .ref (r 19), .ref (r 20), .ref (r 21), .ref (r 22), .ref (r 23), .ref (r 24), .ref (r 25), .ref (r 26), .ref (r 27), .ref (r 28), .ref (r 29), .int 0, .int 0, .int 0, .ref (r 30), .int 0, .int 0, .int 0, .int 0, .int 0, .int 0, .ref (r 31), .int 0, .int 0, .int 0, .ref (r 32), .ref (r 33)])), ((r 6), .inl ((j 4), 5, .inl (fun _ => 0))), ((r 7), .inl ((j 5), 40, .inl (fun _ => 0)))]) [78, 83, 84] rfl
  have hKc := hK.sub (tys' := [((j 4), .int), ((j 5), .int)]) [60, 61] rfl
  have hDc := hD.sub (ws' := [((r 0), .inr (12, [.int 0, .ref (r 1), .ref (r 2), .ref (r 3), .ref (r 4), .ref (r 5), .int 0, .int 0, .int 0, .int 0, .int 0, .long 0, .int 0, .int 0, .int 0, .int (-1), .ref (r 6), .ref (r 7), .ref (r 8), .ref (r 9), .ref (r 10), .ref (r 11), .ref (r 12), .ref (r 13), .int 0, .int 0, .int 0, .ref (r 14), .ref (r 15), .ref (r 16), .ref (r 17), .ref (r 18), .ref (r 19), .ref (r 20), .ref (r 21), .ref (r 22), .ref (r 23), .ref (r 24), .ref (r 25), .ref (r 26), .ref (r 27), .ref (r 28), .ref (r 29), .int 0, .int 0, .int 0, .ref (r 30), .int 0, .int 0, .int 0, .int 0, .int 0, .int 0, .ref (r 31), .int 0, .int 0, .int 0, .ref (r 32), .ref (r 33)])), ((r 6), .inl ((j 4), 5, .inl (fun _ => 0))), ((r 7), .inl ((j 5), 40, .inl (fun _ => 0)))]) [78, 83, 84] (by decide) rfl
  have hFc := va_free (wc := [((r 0), .inr (12, [.int 0, .ref (r 1), .ref (r 2), .ref (r 3), .ref (r 4), .ref (r 5), .int 0, .int 0, .int 0, .int 0, .int 0, .long 0, .int 0, .int 0, .int 0, .int (-1), .ref (r 6), .ref (r 7), .ref (r 8), .ref (r 9), .ref (r 10), .ref (r 11), .ref (r 12), .ref (r 13), .int 0, .int 0, .int 0, .ref (r 14), .ref (r 15), .ref (r 16), .ref (r 17), .ref (r 18), .ref (r 19), .ref (r 20), .ref (r 21), .ref (r 22), .ref (r 23), .ref (r 24), .ref (r 25), .ref (r 26), .ref (r 27), .ref (r 28), .ref (r 29), .int 0, .int 0, .int 0, .ref (r 30), .int 0, .int 0, .int 0, .int 0, .int 0, .int 0, .ref (r 31), .int 0, .int 0, .int 0, .ref (r 32), .ref (r 33)])), ((r 6), .inl ((j 4), 5, .inl (fun _ => 0))), ((r 7), .inl ((j 5), 40, .inl (fun _ => 0)))]) hD hS hA [78, 83, 84] rfl
  refine va_calli (va_runV (As := [.int (xs 1)]) (rest := [.int (-2)]) ⟨hx, hb, hml, hown, hts⟩ (f_X12_cold l dC dI H.size ((r 0)) ((r 1)) ((r 2)) ((r 3)) ((r 4)) ((r 5)) ((r 6)) ((r 7)) ((r 8)) ((r 9)) ((r 10)) ((r 11)) ((r 12)) ((r 13)) ((r 14)) ((r 15)) ((r 16)) ((r 17)) ((r 18)) ((r 19)) ((r 20)) ((r 21)) ((r 22)) ((r 23)) ((r 24)) ((r 25)) ((r 26)) ((r 27)) ((r 28)) ((r 29)) ((r 30)) ((r 31)) ((r 32)) ((r 33)) ((j 4)) ((j 5)) ((xs 1))) (cwV 1 hts (gk_V tw_743 tw_744 tw_745 tw_505 wki_f_X12_cold wkg_f_X12_cold) rfl rfl rfl (by decide +kernel) ⟨Nat.le_of_ble_eq_true rfl, Nat.le_of_ble_eq_true rfl⟩) ⟨fun a U g mk q => by obtain ⟨q0, q1, qP, qK, qD⟩ := q; exact ⟨q0, q1, qP, va_K.moved (u := U) (U := U.calling g mk a) (Vm.Alike.refl U.vm) qK, qD⟩, va_recv hKc hPc (ci := 12) (q0 := 0) rfl rfl, fun U hU hW => ⟨rfl, by rw [hU], by rw [hU]; exact hPc, va_K.moved hW.alike hKc, hDc.weaken (fun _ _ _ _ => trivial)⟩⟩ rfl rfl hl.1 rfl (lv_room (Nat.le_of_ble_eq_true rfl)) dL_law_572 ⟨Nat.le_of_ble_eq_true rfl, Nat.le_of_ble_eq_true rfl⟩) hS (fun q _ h => hFc q h) hFc (fun oz6 u t H1 locs ht hvm gz5 hB hz1 hk1 hS => ?_)
  generalize H1 = H at hS ⊢
  refine W.widen (k := 305) (n := 4995) (Nat.le_of_ble_eq_true rfl) (Nat.le_of_ble_eq_true rfl) ?_
  obtain rfl := gz5
  refine lv_icmp_eq (tgt := 2293) hx hb dL_law_575 (by decide) (fun cz7 => ?_) (fun cz7 => ?_)
  · skip
    exact law_end (dC := dC) (dI := dI) (Nat.le_of_eq hL6) C0 A hAe (q 0) (r 0) H locs hS ls hl
  · skip
    exact absurd cz7 (by decide)
set_option maxHeartbeats 4000000 in
set_option maxRecDepth 100000 in
theorem law_case_8 {p : Program} {l : Launch} {e : Env} {s : State} {m : MethodId} {below : List Frame} {meth : Method} {c : Code} {dC : Nat → ClassId} {dI : Nat → Nat → Nat} {b L : Nat} {xs : Nat → Int32} (hL6 : L = 6) (C0 : lw_At p s m meth c b L xs) (A : Nat → Prop) (hAe : A = fun q => s.heap.size ≤ q) (q r : Nat → Nat) (k j : Nat → ClassId) (H : Heap) (locs : List Loc) (hK : va_K (dC, dI) vwCl (tX k ++ tM j) s) (hP : va_P (dC, dI) vwCl (wX q k ++ wM r j) H) (hD : va_D A (wX q k ++ wM r j)) (hS : va_S A s.heap H locs) (ls : Array Slot) (hl : lv_has ls 4 [(0, .ref b), (1, .ref (q 0)), (2, .ref (r 0)), (3, .int 0)]) : W p l e room_1 s m #[Value.ref b] below meth c H locs 305 4995 (lw_Z below #[Value.ref b] s) (F0 m 580 ls []) := by
  obtain ⟨hx, hb, hr, hml, hown, hts, hX, hbl, hlocks, hgv⟩ := id C0
  have hown : s.vm.findClass RL = some m.cls := hown
  have hA : ∀ q : Nat, s.heap.size ≤ q → A q := by rw [hAe]; exact fun _ h => h
  have hbA : ¬ A b := by rw [hAe]; exact Nat.not_le.mpr hbl
  refine lv_aload_n hx hb dL_law_580 rfl (lv_at hl 1 rfl) ?_
  refine lv_aload_n hx hb dL_law_581 rfl (lv_at hl 0 rfl) ?_
  refine lv_iload_n hx hb dL_law_582 rfl (lv_at hl 3 rfl) ?_
  refine lv_iconst (v := 1) hx hb dL_law_583 (by decide) ?_
  refine lv_iadd hx hb dL_law_584 ?_
  refine lv_topi (fun xz1 exz1 => ?_)
  obtain rfl : xz1 = 1 := exz1.trans (by decide)
  refine va_sld hx hb hX hbl hbA hS (by rw [hL6]; unfold vp_in; decide) dL_law_585 ?_
  refine W.eq (g2 := F0 m 586 ls [.int (xs 1), .ref (q 0)]) rfl ?_
  have hPc := hP.sub (ws' := [((q 0), .inr (11, [.ref (q 1), .ref (q 2), .ref (q 3), .ref (q 4), .ref (q 5), .ref (q 6), .ref (q 7), .ref (q 8), .ref (q 9), .ref (q 10), .ref (q 11), .ref (q 12), .ref (q 13), .ref (q 14), .ref (q 15)])), ((q 2), .inr (10, [.ref (q 25), .ref (q 26), .ref (q 27), .ref (q 28), .ref (q 29), .ref (q 30), .ref (q 31), .int 0, .int 0, .int 0, .int 0, .int 0, .int 0, .int 0, .int 0, .int 0]))]) [0, 11] rfl
  have hKc := hK.sub (tys' := []) [] rfl
  refine vp_callSi (va_Run.run (va_runV (As := [.int (xs 1)]) (rest := []) ⟨hx, hb, hml, hown, hts⟩ (f_X11_goes l dC dI ((q 0)) ((q 1)) ((q 2)) ((q 3)) ((q 4)) ((q 5)) ((q 6)) ((q 7)) ((q 8)) ((q 9)) ((q 10)) ((q 11)) ((q 12)) ((q 13)) ((q 14)) ((q 15)) ((q 25)) ((q 26)) ((q 27)) ((q 28)) ((q 29)) ((q 30)) ((q 31)) ((xs 1))) (cwV 1 hts (gk_V tw_746 tw_747 tw_748 tw_157 wki_f_X11_goes wkg_f_X11_goes) rfl rfl rfl (by decide +kernel) ⟨Nat.le_of_ble_eq_true rfl, Nat.le_of_ble_eq_true rfl⟩) ⟨fun a U g mk q => by obtain ⟨q0, qP, qK⟩ := q; exact ⟨q0, qP, va_K.moved (u := U) (U := U.calling g mk a) (Vm.Alike.refl U.vm) qK⟩, va_recv hKc hPc (ci := 11) (q0 := 0) rfl rfl, fun U hU hW => ⟨rfl, by rw [hU]; exact hPc, va_K.moved hW.alike hKc⟩⟩ rfl rfl hl.1 rfl (lv_room (Nat.le_of_ble_eq_true rfl)) dL_law_586 ⟨Nat.le_of_ble_eq_true rfl, Nat.le_of_ble_eq_true rfl⟩)) (fun oz3 gz2 => ?_)
  obtain rfl := gz2
  refine lv_aload_n hx hb dL_law_589 rfl (lv_at hl 2 rfl) ?_
  refine lv_aload_n hx hb dL_law_590 rfl (lv_at hl 0 rfl) ?_
  refine lv_iload_n hx hb dL_law_591 rfl (lv_at hl 3 rfl) ?_
  refine lv_iconst (v := 1) hx hb dL_law_592 (by decide) ?_
  refine lv_iadd hx hb dL_law_593 ?_
  refine lv_topi (fun xz4 exz4 => ?_)
  obtain rfl : xz4 = 1 := exz4.trans (by decide)
  refine va_sld hx hb hX hbl hbA hS (by rw [hL6]; unfold vp_in; decide) dL_law_594 ?_
  refine W.eq (g2 := F0 m 595 ls [.int (xs 1), .ref (r 0), .int (-2)]) rfl ?_
  have hPc := hP.sub (ws' := [((r 0), .inr (12, [.int 0, .ref (r 1), .ref (r 2), .ref (r 3), .ref (r 4), .ref (r 5), .int 0, .int 0, .int 0, .int 0, .int 0, .long 0, .int 0, .int 0, .int 0, .int (-1), .ref (r 6), .ref (r 7), .ref (r 8), .ref (r 9), .ref (r 10), .ref (r 11), .ref (r 12), .ref (r 13), .int 0, .int 0, .int 0, .ref (r 14), .ref (r 15), .ref (r 16), .ref (r 17), .ref (r 18), .ref (r 19), .ref (r 20), .ref (r 21), .ref (r 22), .ref (r 23), .ref (r 24), .ref (r 25), .ref (r 26), .ref (r 27), .ref (r 28), .ref (r 29), .int 0, .int 0, .int 0, .ref (r 30), .int 0, .int 0, .int 0, .int 0, .int 0, .int 0, .ref (r 31), .int 0, .int 0, .int 0, .ref (r 32), .ref (r 33)])), ((r 6), .inl ((j 4), 5, .inl (fun _ => 0))), ((r 7), .inl ((j 5), 40, .inl (fun _ => 0)))]) [78, 83, 84] rfl
  have hKc := hK.sub (tys' := [((j 4), .int), ((j 5), .int)]) [60, 61] rfl
  have hDc := hD.sub (ws' := [((r 0), .inr (12, [.int 0, .ref (r 1), .ref (r 2), .ref (r 3), .ref (r 4), .ref (r 5), .int 0, .int 0, .int 0, .int 0, .int 0, .long 0, .int 0, .int 0, .int 0, .int (-1), .ref (r 6), .ref (r 7), .ref (r 8), .ref (r 9), .ref (r 10), .ref (r 11), .ref (r 12), .ref (r 13), .int 0, .int 0, .int 0, .ref (r 14), .ref (r 15), .ref (r 16), .ref (r 17), .ref (r 18), .ref (r 19), .ref (r 20), .ref (r 21), .ref (r 22), .ref (r 23), .ref (r 24), .ref (r 25), .ref (r 26), .ref (r 27), .ref (r 28), .ref (r 29), .int 0, .int 0, .int 0, .ref (r 30), .int 0, .int 0, .int 0, .int 0, .int 0, .int 0, .ref (r 31), .int 0, .int 0, .int 0, .ref (r 32), .ref (r 33)])), ((r 6), .inl ((j 4), 5, .inl (fun _ => 0))), ((r 7), .inl ((j 5), 40, .inl (fun _ => 0)))]) [78, 83, 84] (by decide) rfl
  have hFc := va_free (wc := [((r 0), .inr (12, [.int 0, .ref (r 1), .ref (r 2), .ref (r 3), .ref (r 4), .ref (r 5), .int 0, .int 0, .int 0, .int 0, .int 0, .long 0, .int 0, .int 0, .int 0, .int (-1), .ref (r 6), .ref (r 7), .ref (r 8), .ref (r 9), .ref (r 10), .ref (r 11), .ref (r 12), .ref (r 13), .int 0, .int 0, .int 0, .ref (r 14), .ref (r 15), .ref (r 16), .ref (r 17), .ref (r 18), .ref (r 19), .ref (r 20), .ref (r 21), .ref (r 22), .ref (r 23), .ref (r 24), .ref (r 25), .ref (r 26), .ref (r 27), .ref (r 28), .ref (r 29), .int 0, .int 0, .int 0, .ref (r 30), .int 0, .int 0, .int 0, .int 0, .int 0, .int 0, .ref (r 31), .int 0, .int 0, .int 0, .ref (r 32), .ref (r 33)])), ((r 6), .inl ((j 4), 5, .inl (fun _ => 0))), ((r 7), .inl ((j 5), 40, .inl (fun _ => 0)))]) hD hS hA [78, 83, 84] rfl
  refine va_calli (va_runV (As := [.int (xs 1)]) (rest := [.int (-2)]) ⟨hx, hb, hml, hown, hts⟩ (f_X12_goes l dC dI H.size ((r 0)) ((r 1)) ((r 2)) ((r 3)) ((r 4)) ((r 5)) ((r 6)) ((r 7)) ((r 8)) ((r 9)) ((r 10)) ((r 11)) ((r 12)) ((r 13)) ((r 14)) ((r 15)) ((r 16)) ((r 17)) ((r 18)) ((r 19)) ((r 20)) ((r 21)) ((r 22)) ((r 23)) ((r 24)) ((r 25)) ((r 26)) ((r 27)) ((r 28)) ((r 29)) ((r 30)) ((r 31)) ((r 32)) ((r 33)) ((j 4)) ((j 5)) ((xs 1))) (cwV 1 hts (gk_V tw_749 tw_750 tw_751 tw_505 wki_f_X12_goes wkg_f_X12_goes) rfl rfl rfl (by decide +kernel) ⟨Nat.le_of_ble_eq_true rfl, Nat.le_of_ble_eq_true rfl⟩) ⟨fun a U g mk q => by obtain ⟨q0, q1, qP, qK, qD⟩ := q; exact ⟨q0, q1, qP, va_K.moved (u := U) (U := U.calling g mk a) (Vm.Alike.refl U.vm) qK, qD⟩, va_recv hKc hPc (ci := 12) (q0 := 0) rfl rfl, fun U hU hW => ⟨rfl, by rw [hU], by rw [hU]; exact hPc, va_K.moved hW.alike hKc, hDc.weaken (fun _ _ _ _ => trivial)⟩⟩ rfl rfl hl.1 rfl (lv_room (Nat.le_of_ble_eq_true rfl)) dL_law_595 ⟨Nat.le_of_ble_eq_true rfl, Nat.le_of_ble_eq_true rfl⟩) hS (fun q _ h => hFc q h) hFc (fun oz6 u t H1 locs ht hvm gz5 hB hz1 hk1 hS => ?_)
  generalize H1 = H at hS ⊢
  refine W.widen (k := 305) (n := 4995) (Nat.le_of_ble_eq_true rfl) (Nat.le_of_ble_eq_true rfl) ?_
  obtain rfl := gz5
  refine lv_icmp_eq (tgt := 2293) hx hb dL_law_598 (by decide) (fun cz7 => ?_) (fun cz7 => ?_)
  · skip
    exact law_end (dC := dC) (dI := dI) (Nat.le_of_eq hL6) C0 A hAe (q 0) (r 0) H locs hS ls hl
  · skip
    exact absurd cz7 (by decide)
set_option maxHeartbeats 4000000 in
set_option maxRecDepth 100000 in
theorem law_case_9 {p : Program} {l : Launch} {e : Env} {s : State} {m : MethodId} {below : List Frame} {meth : Method} {c : Code} {dC : Nat → ClassId} {dI : Nat → Nat → Nat} {b L : Nat} {xs : Nat → Int32} (hL6 : L = 6) (C0 : lw_At p s m meth c b L xs) (A : Nat → Prop) (hAe : A = fun q => s.heap.size ≤ q) (q r : Nat → Nat) (k j : Nat → ClassId) (H : Heap) (locs : List Loc) (hK : va_K (dC, dI) vwCl (tX k ++ tM j) s) (hP : va_P (dC, dI) vwCl (wX q k ++ wM r j) H) (hD : va_D A (wX q k ++ wM r j)) (hS : va_S A s.heap H locs) (ls : Array Slot) (hl : lv_has ls 4 [(0, .ref b), (1, .ref (q 0)), (2, .ref (r 0)), (3, .int 0)]) : W p l e room_1 s m #[Value.ref b] below meth c H locs 305 4995 (lw_Z below #[Value.ref b] s) (F0 m 603 ls []) := by
  obtain ⟨hx, hb, hr, hml, hown, hts, hX, hbl, hlocks, hgv⟩ := id C0
  have hown : s.vm.findClass RL = some m.cls := hown
  have hA : ∀ q : Nat, s.heap.size ≤ q → A q := by rw [hAe]; exact fun _ h => h
  have hbA : ¬ A b := by rw [hAe]; exact Nat.not_le.mpr hbl
  refine lv_aload_n hx hb dL_law_603 rfl (lv_at hl 1 rfl) ?_
  refine lv_aload_n hx hb dL_law_604 rfl (lv_at hl 0 rfl) ?_
  refine lv_iload_n hx hb dL_law_605 rfl (lv_at hl 3 rfl) ?_
  refine lv_iconst (v := 1) hx hb dL_law_606 (by decide) ?_
  refine lv_iadd hx hb dL_law_607 ?_
  refine lv_topi (fun xz1 exz1 => ?_)
  obtain rfl : xz1 = 1 := exz1.trans (by decide)
  refine va_sld hx hb hX hbl hbA hS (by rw [hL6]; unfold vp_in; decide) dL_law_608 ?_
  refine W.eq (g2 := F0 m 609 ls [.int (xs 1), .ref (q 0)]) rfl ?_
  have hPc := hP.sub (ws' := [((q 0), .inr (11, [.ref (q 1), .ref (q 2), .ref (q 3), .ref (q 4), .ref (q 5), .ref (q 6), .ref (q 7), .ref (q 8), .ref (q 9), .ref (q 10), .ref (q 11), .ref (q 12), .ref (q 13), .ref (q 14), .ref (q 15)])), ((q 2), .inr (10, [.ref (q 25), .ref (q 26), .ref (q 27), .ref (q 28), .ref (q 29), .ref (q 30), .ref (q 31), .int 0, .int 0, .int 0, .int 0, .int 0, .int 0, .int 0, .int 0, .int 0]))]) [0, 11] rfl
  have hKc := hK.sub (tys' := []) [] rfl
  refine vp_callSi (va_Run.run (va_runV (As := [.int (xs 1)]) (rest := []) ⟨hx, hb, hml, hown, hts⟩ (f_X11_comes l dC dI ((q 0)) ((q 1)) ((q 2)) ((q 3)) ((q 4)) ((q 5)) ((q 6)) ((q 7)) ((q 8)) ((q 9)) ((q 10)) ((q 11)) ((q 12)) ((q 13)) ((q 14)) ((q 15)) ((q 25)) ((q 26)) ((q 27)) ((q 28)) ((q 29)) ((q 30)) ((q 31)) ((xs 1))) (cwV 1 hts (gk_V tw_752 tw_753 tw_754 tw_157 wki_f_X11_comes wkg_f_X11_comes) rfl rfl rfl (by decide +kernel) ⟨Nat.le_of_ble_eq_true rfl, Nat.le_of_ble_eq_true rfl⟩) ⟨fun a U g mk q => by obtain ⟨q0, qP, qK⟩ := q; exact ⟨q0, qP, va_K.moved (u := U) (U := U.calling g mk a) (Vm.Alike.refl U.vm) qK⟩, va_recv hKc hPc (ci := 11) (q0 := 0) rfl rfl, fun U hU hW => ⟨rfl, by rw [hU]; exact hPc, va_K.moved hW.alike hKc⟩⟩ rfl rfl hl.1 rfl (lv_room (Nat.le_of_ble_eq_true rfl)) dL_law_609 ⟨Nat.le_of_ble_eq_true rfl, Nat.le_of_ble_eq_true rfl⟩)) (fun oz3 gz2 => ?_)
  obtain rfl := gz2
  refine lv_aload_n hx hb dL_law_612 rfl (lv_at hl 2 rfl) ?_
  refine lv_aload_n hx hb dL_law_613 rfl (lv_at hl 0 rfl) ?_
  refine lv_iload_n hx hb dL_law_614 rfl (lv_at hl 3 rfl) ?_
  refine lv_iconst (v := 1) hx hb dL_law_615 (by decide) ?_
  refine lv_iadd hx hb dL_law_616 ?_
  refine lv_topi (fun xz4 exz4 => ?_)
  obtain rfl : xz4 = 1 := exz4.trans (by decide)
  refine va_sld hx hb hX hbl hbA hS (by rw [hL6]; unfold vp_in; decide) dL_law_617 ?_
  refine W.eq (g2 := F0 m 618 ls [.int (xs 1), .ref (r 0), .int (-2)]) rfl ?_
  have hPc := hP.sub (ws' := [((r 0), .inr (12, [.int 0, .ref (r 1), .ref (r 2), .ref (r 3), .ref (r 4), .ref (r 5), .int 0, .int 0, .int 0, .int 0, .int 0, .long 0, .int 0, .int 0, .int 0, .int (-1), .ref (r 6), .ref (r 7), .ref (r 8), .ref (r 9), .ref (r 10), .ref (r 11), .ref (r 12), .ref (r 13), .int 0, .int 0, .int 0, .ref (r 14), .ref (r 15), .ref (r 16), .ref (r 17), .ref (r 18), .ref (r 19), .ref (r 20), .ref (r 21), .ref (r 22), .ref (r 23), .ref (r 24), .ref (r 25), .ref (r 26), .ref (r 27), .ref (r 28), .ref (r 29), .int 0, .int 0, .int 0, .ref (r 30), .int 0, .int 0, .int 0, .int 0, .int 0, .int 0, .ref (r 31), .int 0, .int 0, .int 0, .ref (r 32), .ref (r 33)])), ((r 6), .inl ((j 4), 5, .inl (fun _ => 0))), ((r 7), .inl ((j 5), 40, .inl (fun _ => 0)))]) [78, 83, 84] rfl
  have hKc := hK.sub (tys' := [((j 4), .int), ((j 5), .int)]) [60, 61] rfl
  have hDc := hD.sub (ws' := [((r 0), .inr (12, [.int 0, .ref (r 1), .ref (r 2), .ref (r 3), .ref (r 4), .ref (r 5), .int 0, .int 0, .int 0, .int 0, .int 0, .long 0, .int 0, .int 0, .int 0, .int (-1), .ref (r 6), .ref (r 7), .ref (r 8), .ref (r 9), .ref (r 10), .ref (r 11), .ref (r 12), .ref (r 13), .int 0, .int 0, .int 0, .ref (r 14), .ref (r 15), .ref (r 16), .ref (r 17), .ref (r 18), .ref (r 19), .ref (r 20), .ref (r 21), .ref (r 22), .ref (r 23), .ref (r 24), .ref (r 25), .ref (r 26), .ref (r 27), .ref (r 28), .ref (r 29), .int 0, .int 0, .int 0, .ref (r 30), .int 0, .int 0, .int 0, .int 0, .int 0, .int 0, .ref (r 31), .int 0, .int 0, .int 0, .ref (r 32), .ref (r 33)])), ((r 6), .inl ((j 4), 5, .inl (fun _ => 0))), ((r 7), .inl ((j 5), 40, .inl (fun _ => 0)))]) [78, 83, 84] (by decide) rfl
  have hFc := va_free (wc := [((r 0), .inr (12, [.int 0, .ref (r 1), .ref (r 2), .ref (r 3), .ref (r 4), .ref (r 5), .int 0, .int 0, .int 0, .int 0, .int 0, .long 0, .int 0, .int 0, .int 0, .int (-1), .ref (r 6), .ref (r 7), .ref (r 8), .ref (r 9), .ref (r 10), .ref (r 11), .ref (r 12), .ref (r 13), .int 0, .int 0, .int 0, .ref (r 14), .ref (r 15), .ref (r 16), .ref (r 17), .ref (r 18), .ref (r 19), .ref (r 20), .ref (r 21), .ref (r 22), .ref (r 23), .ref (r 24), .ref (r 25), .ref (r 26), .ref (r 27), .ref (r 28), .ref (r 29), .int 0, .int 0, .int 0, .ref (r 30), .int 0, .int 0, .int 0, .int 0, .int 0, .int 0, .ref (r 31), .int 0, .int 0, .int 0, .ref (r 32), .ref (r 33)])), ((r 6), .inl ((j 4), 5, .inl (fun _ => 0))), ((r 7), .inl ((j 5), 40, .inl (fun _ => 0)))]) hD hS hA [78, 83, 84] rfl
  refine va_calli (va_runV (As := [.int (xs 1)]) (rest := [.int (-2)]) ⟨hx, hb, hml, hown, hts⟩ (f_X12_comes l dC dI H.size ((r 0)) ((r 1)) ((r 2)) ((r 3)) ((r 4)) ((r 5)) ((r 6)) ((r 7)) ((r 8)) ((r 9)) ((r 10)) ((r 11)) ((r 12)) ((r 13)) ((r 14)) ((r 15)) ((r 16)) ((r 17)) ((r 18)) ((r 19)) ((r 20)) ((r 21)) ((r 22)) ((r 23)) ((r 24)) ((r 25)) ((r 26)) ((r 27)) ((r 28)) ((r 29)) ((r 30)) ((r 31)) ((r 32)) ((r 33)) ((j 4)) ((j 5)) ((xs 1))) (cwV 1 hts (gk_V tw_755 tw_756 tw_757 tw_505 wki_f_X12_comes wkg_f_X12_comes) rfl rfl rfl (by decide +kernel) ⟨Nat.le_of_ble_eq_true rfl, Nat.le_of_ble_eq_true rfl⟩) ⟨fun a U g mk q => by obtain ⟨q0, q1, qP, qK, qD⟩ := q; exact ⟨q0, q1, qP, va_K.moved (u := U) (U := U.calling g mk a) (Vm.Alike.refl U.vm) qK, qD⟩, va_recv hKc hPc (ci := 12) (q0 := 0) rfl rfl, fun U hU hW => ⟨rfl, by rw [hU], by rw [hU]; exact hPc, va_K.moved hW.alike hKc, hDc.weaken (fun _ _ _ _ => trivial)⟩⟩ rfl rfl hl.1 rfl (lv_room (Nat.le_of_ble_eq_true rfl)) dL_law_618 ⟨Nat.le_of_ble_eq_true rfl, Nat.le_of_ble_eq_true rfl⟩) hS (fun q _ h => hFc q h) hFc (fun oz6 u t H1 locs ht hvm gz5 hB hz1 hk1 hS => ?_)
  generalize H1 = H at hS ⊢
  refine W.widen (k := 305) (n := 4995) (Nat.le_of_ble_eq_true rfl) (Nat.le_of_ble_eq_true rfl) ?_
  obtain rfl := gz5
  refine lv_icmp_eq (tgt := 2293) hx hb dL_law_621 (by decide) (fun cz7 => ?_) (fun cz7 => ?_)
  · skip
    exact law_end (dC := dC) (dI := dI) (Nat.le_of_eq hL6) C0 A hAe (q 0) (r 0) H locs hS ls hl
  · skip
    exact absurd cz7 (by decide)
set_option maxHeartbeats 4000000 in
set_option maxRecDepth 100000 in
theorem law_case_10 {p : Program} {l : Launch} {e : Env} {s : State} {m : MethodId} {below : List Frame} {meth : Method} {c : Code} {dC : Nat → ClassId} {dI : Nat → Nat → Nat} {b L : Nat} {xs : Nat → Int32} (hL6 : L = 6) (C0 : lw_At p s m meth c b L xs) (A : Nat → Prop) (hAe : A = fun q => s.heap.size ≤ q) (q r : Nat → Nat) (k j : Nat → ClassId) (H : Heap) (locs : List Loc) (hK : va_K (dC, dI) vwCl (tX k ++ tM j) s) (hP : va_P (dC, dI) vwCl (wX q k ++ wM r j) H) (hD : va_D A (wX q k ++ wM r j)) (hS : va_S A s.heap H locs) (ls : Array Slot) (hl : lv_has ls 4 [(0, .ref b), (1, .ref (q 0)), (2, .ref (r 0)), (3, .int 0)]) : W p l e room_1 s m #[Value.ref b] below meth c H locs 305 4995 (lw_Z below #[Value.ref b] s) (F0 m 626 ls []) := by
  obtain ⟨hx, hb, hr, hml, hown, hts, hX, hbl, hlocks, hgv⟩ := id C0
  have hown : s.vm.findClass RL = some m.cls := hown
  have hA : ∀ q : Nat, s.heap.size ≤ q → A q := by rw [hAe]; exact fun _ h => h
  have hbA : ¬ A b := by rw [hAe]; exact Nat.not_le.mpr hbl
  refine lv_aload_n hx hb dL_law_626 rfl (lv_at hl 1 rfl) ?_
  refine lv_aload_n hx hb dL_law_627 rfl (lv_at hl 0 rfl) ?_
  refine lv_iload_n hx hb dL_law_628 rfl (lv_at hl 3 rfl) ?_
  refine lv_iconst (v := 1) hx hb dL_law_629 (by decide) ?_
  refine lv_iadd hx hb dL_law_630 ?_
  refine lv_topi (fun xz1 exz1 => ?_)
  obtain rfl : xz1 = 1 := exz1.trans (by decide)
  refine va_sld hx hb hX hbl hbA hS (by rw [hL6]; unfold vp_in; decide) dL_law_631 ?_
  refine W.eq (g2 := F0 m 632 ls [.int (xs 1), .ref (q 0)]) rfl ?_
  have hPc := hP.sub (ws' := [((q 0), .inr (11, [.ref (q 1), .ref (q 2), .ref (q 3), .ref (q 4), .ref (q 5), .ref (q 6), .ref (q 7), .ref (q 8), .ref (q 9), .ref (q 10), .ref (q 11), .ref (q 12), .ref (q 13), .ref (q 14), .ref (q 15)])), ((q 2), .inr (10, [.ref (q 25), .ref (q 26), .ref (q 27), .ref (q 28), .ref (q 29), .ref (q 30), .ref (q 31), .int 0, .int 0, .int 0, .int 0, .int 0, .int 0, .int 0, .int 0, .int 0]))]) [0, 11] rfl
  have hKc := hK.sub (tys' := []) [] rfl
  refine vp_callSi (va_Run.run (va_runV (As := [.int (xs 1)]) (rest := []) ⟨hx, hb, hml, hown, hts⟩ (f_X11_over l dC dI ((q 0)) ((q 1)) ((q 2)) ((q 3)) ((q 4)) ((q 5)) ((q 6)) ((q 7)) ((q 8)) ((q 9)) ((q 10)) ((q 11)) ((q 12)) ((q 13)) ((q 14)) ((q 15)) ((q 25)) ((q 26)) ((q 27)) ((q 28)) ((q 29)) ((q 30)) ((q 31)) ((xs 1))) (cwV 1 hts (gk_V tw_758 tw_759 tw_760 tw_157 wki_f_X11_over wkg_f_X11_over) rfl rfl rfl (by decide +kernel) ⟨Nat.le_of_ble_eq_true rfl, Nat.le_of_ble_eq_true rfl⟩) ⟨fun a U g mk q => by obtain ⟨q0, qP, qK⟩ := q; exact ⟨q0, qP, va_K.moved (u := U) (U := U.calling g mk a) (Vm.Alike.refl U.vm) qK⟩, va_recv hKc hPc (ci := 11) (q0 := 0) rfl rfl, fun U hU hW => ⟨rfl, by rw [hU]; exact hPc, va_K.moved hW.alike hKc⟩⟩ rfl rfl hl.1 rfl (lv_room (Nat.le_of_ble_eq_true rfl)) dL_law_632 ⟨Nat.le_of_ble_eq_true rfl, Nat.le_of_ble_eq_true rfl⟩)) (fun oz3 gz2 => ?_)
  obtain rfl := gz2
  refine lv_aload_n hx hb dL_law_635 rfl (lv_at hl 2 rfl) ?_
  refine lv_aload_n hx hb dL_law_636 rfl (lv_at hl 0 rfl) ?_
  refine lv_iload_n hx hb dL_law_637 rfl (lv_at hl 3 rfl) ?_
  refine lv_iconst (v := 1) hx hb dL_law_638 (by decide) ?_
  refine lv_iadd hx hb dL_law_639 ?_
  refine lv_topi (fun xz4 exz4 => ?_)
  obtain rfl : xz4 = 1 := exz4.trans (by decide)
  refine va_sld hx hb hX hbl hbA hS (by rw [hL6]; unfold vp_in; decide) dL_law_640 ?_
  refine W.eq (g2 := F0 m 641 ls [.int (xs 1), .ref (r 0), .int (-2)]) rfl ?_
  have hPc := hP.sub (ws' := [((r 0), .inr (12, [.int 0, .ref (r 1), .ref (r 2), .ref (r 3), .ref (r 4), .ref (r 5), .int 0, .int 0, .int 0, .int 0, .int 0, .long 0, .int 0, .int 0, .int 0, .int (-1), .ref (r 6), .ref (r 7), .ref (r 8), .ref (r 9), .ref (r 10), .ref (r 11), .ref (r 12), .ref (r 13), .int 0, .int 0, .int 0, .ref (r 14), .ref (r 15), .ref (r 16), .ref (r 17), .ref (r 18), .ref (r 19), .ref (r 20), .ref (r 21), .ref (r 22), .ref (r 23), .ref (r 24), .ref (r 25), .ref (r 26), .ref (r 27), .ref (r 28), .ref (r 29), .int 0, .int 0, .int 0, .ref (r 30), .int 0, .int 0, .int 0, .int 0, .int 0, .int 0, .ref (r 31), .int 0, .int 0, .int 0, .ref (r 32), .ref (r 33)])), ((r 6), .inl ((j 4), 5, .inl (fun _ => 0))), ((r 7), .inl ((j 5), 40, .inl (fun _ => 0)))]) [78, 83, 84] rfl
  have hKc := hK.sub (tys' := [((j 4), .int), ((j 5), .int)]) [60, 61] rfl
  have hDc := hD.sub (ws' := [((r 0), .inr (12, [.int 0, .ref (r 1), .ref (r 2), .ref (r 3), .ref (r 4), .ref (r 5), .int 0, .int 0, .int 0, .int 0, .int 0, .long 0, .int 0, .int 0, .int 0, .int (-1), .ref (r 6), .ref (r 7), .ref (r 8), .ref (r 9), .ref (r 10), .ref (r 11), .ref (r 12), .ref (r 13), .int 0, .int 0, .int 0, .ref (r 14), .ref (r 15), .ref (r 16), .ref (r 17), .ref (r 18), .ref (r 19), .ref (r 20), .ref (r 21), .ref (r 22), .ref (r 23), .ref (r 24), .ref (r 25), .ref (r 26), .ref (r 27), .ref (r 28), .ref (r 29), .int 0, .int 0, .int 0, .ref (r 30), .int 0, .int 0, .int 0, .int 0, .int 0, .int 0, .ref (r 31), .int 0, .int 0, .int 0, .ref (r 32), .ref (r 33)])), ((r 6), .inl ((j 4), 5, .inl (fun _ => 0))), ((r 7), .inl ((j 5), 40, .inl (fun _ => 0)))]) [78, 83, 84] (by decide) rfl
  have hFc := va_free (wc := [((r 0), .inr (12, [.int 0, .ref (r 1), .ref (r 2), .ref (r 3), .ref (r 4), .ref (r 5), .int 0, .int 0, .int 0, .int 0, .int 0, .long 0, .int 0, .int 0, .int 0, .int (-1), .ref (r 6), .ref (r 7), .ref (r 8), .ref (r 9), .ref (r 10), .ref (r 11), .ref (r 12), .ref (r 13), .int 0, .int 0, .int 0, .ref (r 14), .ref (r 15), .ref (r 16), .ref (r 17), .ref (r 18), .ref (r 19), .ref (r 20), .ref (r 21), .ref (r 22), .ref (r 23), .ref (r 24), .ref (r 25), .ref (r 26), .ref (r 27), .ref (r 28), .ref (r 29), .int 0, .int 0, .int 0, .ref (r 30), .int 0, .int 0, .int 0, .int 0, .int 0, .int 0, .ref (r 31), .int 0, .int 0, .int 0, .ref (r 32), .ref (r 33)])), ((r 6), .inl ((j 4), 5, .inl (fun _ => 0))), ((r 7), .inl ((j 5), 40, .inl (fun _ => 0)))]) hD hS hA [78, 83, 84] rfl
  refine va_calli (va_runV (As := [.int (xs 1)]) (rest := [.int (-2)]) ⟨hx, hb, hml, hown, hts⟩ (f_X12_over l dC dI H.size ((r 0)) ((r 1)) ((r 2)) ((r 3)) ((r 4)) ((r 5)) ((r 6)) ((r 7)) ((r 8)) ((r 9)) ((r 10)) ((r 11)) ((r 12)) ((r 13)) ((r 14)) ((r 15)) ((r 16)) ((r 17)) ((r 18)) ((r 19)) ((r 20)) ((r 21)) ((r 22)) ((r 23)) ((r 24)) ((r 25)) ((r 26)) ((r 27)) ((r 28)) ((r 29)) ((r 30)) ((r 31)) ((r 32)) ((r 33)) ((j 4)) ((j 5)) ((xs 1))) (cwV 1 hts (gk_V tw_761 tw_762 tw_763 tw_505 wki_f_X12_over wkg_f_X12_over) rfl rfl rfl (by decide +kernel) ⟨Nat.le_of_ble_eq_true rfl, Nat.le_of_ble_eq_true rfl⟩) ⟨fun a U g mk q => by obtain ⟨q0, q1, qP, qK, qD⟩ := q; exact ⟨q0, q1, qP, va_K.moved (u := U) (U := U.calling g mk a) (Vm.Alike.refl U.vm) qK, qD⟩, va_recv hKc hPc (ci := 12) (q0 := 0) rfl rfl, fun U hU hW => ⟨rfl, by rw [hU], by rw [hU]; exact hPc, va_K.moved hW.alike hKc, hDc.weaken (fun _ _ _ _ => trivial)⟩⟩ rfl rfl hl.1 rfl (lv_room (Nat.le_of_ble_eq_true rfl)) dL_law_641 ⟨Nat.le_of_ble_eq_true rfl, Nat.le_of_ble_eq_true rfl⟩) hS (fun q _ h => hFc q h) hFc (fun oz6 u t H1 locs ht hvm gz5 hB hz1 hk1 hS => ?_)
  generalize H1 = H at hS ⊢
  refine W.widen (k := 305) (n := 4995) (Nat.le_of_ble_eq_true rfl) (Nat.le_of_ble_eq_true rfl) ?_
  obtain rfl := gz5
  refine lv_icmp_eq (tgt := 2293) hx hb dL_law_644 (by decide) (fun cz7 => ?_) (fun cz7 => ?_)
  · skip
    exact law_end (dC := dC) (dI := dI) (Nat.le_of_eq hL6) C0 A hAe (q 0) (r 0) H locs hS ls hl
  · skip
    exact absurd cz7 (by decide)
set_option maxHeartbeats 4000000 in
set_option maxRecDepth 100000 in
theorem law_case_11 {p : Program} {l : Launch} {e : Env} {s : State} {m : MethodId} {below : List Frame} {meth : Method} {c : Code} {dC : Nat → ClassId} {dI : Nat → Nat → Nat} {b L : Nat} {xs : Nat → Int32} (hL6 : L = 6) (C0 : lw_At p s m meth c b L xs) (A : Nat → Prop) (hAe : A = fun q => s.heap.size ≤ q) (q r : Nat → Nat) (k j : Nat → ClassId) (H : Heap) (locs : List Loc) (hK : va_K (dC, dI) vwCl (tX k ++ tM j) s) (hP : va_P (dC, dI) vwCl (wX q k ++ wM r j) H) (hD : va_D A (wX q k ++ wM r j)) (hS : va_S A s.heap H locs) (ls : Array Slot) (hl : lv_has ls 4 [(0, .ref b), (1, .ref (q 0)), (2, .ref (r 0)), (3, .int 0)]) : W p l e room_1 s m #[Value.ref b] below meth c H locs 305 4995 (lw_Z below #[Value.ref b] s) (F0 m 649 ls []) := by
  obtain ⟨hx, hb, hr, hml, hown, hts, hX, hbl, hlocks, hgv⟩ := id C0
  have hown : s.vm.findClass RL = some m.cls := hown
  have hA : ∀ q : Nat, s.heap.size ≤ q → A q := by rw [hAe]; exact fun _ h => h
  have hbA : ¬ A b := by rw [hAe]; exact Nat.not_le.mpr hbl
  refine lv_aload_n hx hb dL_law_649 rfl (lv_at hl 1 rfl) ?_
  have hPc := hP.sub (ws' := [((q 0), .inr (11, [.ref (q 1), .ref (q 2), .ref (q 3), .ref (q 4), .ref (q 5), .ref (q 6), .ref (q 7), .ref (q 8), .ref (q 9), .ref (q 10), .ref (q 11), .ref (q 12), .ref (q 13), .ref (q 14), .ref (q 15)])), ((q 2), .inr (10, [.ref (q 25), .ref (q 26), .ref (q 27), .ref (q 28), .ref (q 29), .ref (q 30), .ref (q 31), .int 0, .int 0, .int 0, .int 0, .int 0, .int 0, .int 0, .int 0, .int 0]))]) [0, 11] rfl
  have hKc := hK.sub (tys' := []) [] rfl
  refine vp_callSi (va_Run.run (va_runV (As := []) (rest := []) ⟨hx, hb, hml, hown, hts⟩ (f_X11_waits l dC dI ((q 0)) ((q 1)) ((q 2)) ((q 3)) ((q 4)) ((q 5)) ((q 6)) ((q 7)) ((q 8)) ((q 9)) ((q 10)) ((q 11)) ((q 12)) ((q 13)) ((q 14)) ((q 15)) ((q 25)) ((q 26)) ((q 27)) ((q 28)) ((q 29)) ((q 30)) ((q 31))) (cwV 0 hts (gk_V tw_764 tw_765 tw_766 tw_157 wki_f_X11_waits wkg_f_X11_waits) rfl rfl rfl (by decide +kernel) ⟨Nat.le_of_ble_eq_true rfl, Nat.le_of_ble_eq_true rfl⟩) ⟨fun a U g mk q => by obtain ⟨q0, qP, qK⟩ := q; exact ⟨q0, qP, va_K.moved (u := U) (U := U.calling g mk a) (Vm.Alike.refl U.vm) qK⟩, va_recv hKc hPc (ci := 11) (q0 := 0) rfl rfl, fun U hU hW => ⟨rfl, by rw [hU]; exact hPc, va_K.moved hW.alike hKc⟩⟩ rfl rfl hl.1 rfl (lv_room (Nat.le_of_ble_eq_true rfl)) dL_law_650 ⟨Nat.le_of_ble_eq_true rfl, Nat.le_of_ble_eq_true rfl⟩)) (fun oz2 gz1 => ?_)
  obtain rfl := gz1
  refine lv_aload_n hx hb dL_law_653 rfl (lv_at hl 2 rfl) ?_
  have hPc := hP.sub (ws' := [((r 0), .inr (12, [.int 0, .ref (r 1), .ref (r 2), .ref (r 3), .ref (r 4), .ref (r 5), .int 0, .int 0, .int 0, .int 0, .int 0, .long 0, .int 0, .int 0, .int 0, .int (-1), .ref (r 6), .ref (r 7), .ref (r 8), .ref (r 9), .ref (r 10), .ref (r 11), .ref (r 12), .ref (r 13), .int 0, .int 0, .int 0, .ref (r 14), .ref (r 15), .ref (r 16), .ref (r 17), .ref (r 18), .ref (r 19), .ref (r 20), .ref (r 21), .ref (r 22), .ref (r 23), .ref (r 24), .ref (r 25), .ref (r 26), .ref (r 27), .ref (r 28), .ref (r 29), .int 0, .int 0, .int 0, .ref (r 30), .int 0, .int 0, .int 0, .int 0, .int 0, .int 0, .ref (r 31), .int 0, .int 0, .int 0, .ref (r 32), .ref (r 33)])), ((r 6), .inl ((j 4), 5, .inl (fun _ => 0))), ((r 7), .inl ((j 5), 40, .inl (fun _ => 0)))]) [78, 83, 84] rfl
  have hKc := hK.sub (tys' := [((j 4), .int), ((j 5), .int)]) [60, 61] rfl
  have hDc := hD.sub (ws' := [((r 0), .inr (12, [.int 0, .ref (r 1), .ref (r 2), .ref (r 3), .ref (r 4), .ref (r 5), .int 0, .int 0, .int 0, .int 0, .int 0, .long 0, .int 0, .int 0, .int 0, .int (-1), .ref (r 6), .ref (r 7), .ref (r 8), .ref (r 9), .ref (r 10), .ref (r 11), .ref (r 12), .ref (r 13), .int 0, .int 0, .int 0, .ref (r 14), .ref (r 15), .ref (r 16), .ref (r 17), .ref (r 18), .ref (r 19), .ref (r 20), .ref (r 21), .ref (r 22), .ref (r 23), .ref (r 24), .ref (r 25), .ref (r 26), .ref (r 27), .ref (r 28), .ref (r 29), .int 0, .int 0, .int 0, .ref (r 30), .int 0, .int 0, .int 0, .int 0, .int 0, .int 0, .ref (r 31), .int 0, .int 0, .int 0, .ref (r 32), .ref (r 33)])), ((r 6), .inl ((j 4), 5, .inl (fun _ => 0))), ((r 7), .inl ((j 5), 40, .inl (fun _ => 0)))]) [78, 83, 84] (by decide) rfl
  have hFc := va_free (wc := [((r 0), .inr (12, [.int 0, .ref (r 1), .ref (r 2), .ref (r 3), .ref (r 4), .ref (r 5), .int 0, .int 0, .int 0, .int 0, .int 0, .long 0, .int 0, .int 0, .int 0, .int (-1), .ref (r 6), .ref (r 7), .ref (r 8), .ref (r 9), .ref (r 10), .ref (r 11), .ref (r 12), .ref (r 13), .int 0, .int 0, .int 0, .ref (r 14), .ref (r 15), .ref (r 16), .ref (r 17), .ref (r 18), .ref (r 19), .ref (r 20), .ref (r 21), .ref (r 22), .ref (r 23), .ref (r 24), .ref (r 25), .ref (r 26), .ref (r 27), .ref (r 28), .ref (r 29), .int 0, .int 0, .int 0, .ref (r 30), .int 0, .int 0, .int 0, .int 0, .int 0, .int 0, .ref (r 31), .int 0, .int 0, .int 0, .ref (r 32), .ref (r 33)])), ((r 6), .inl ((j 4), 5, .inl (fun _ => 0))), ((r 7), .inl ((j 5), 40, .inl (fun _ => 0)))]) hD hS hA [78, 83, 84] rfl
  refine va_calli (va_runV (As := []) (rest := [.int (-2)]) ⟨hx, hb, hml, hown, hts⟩ (f_X12_waits l dC dI H.size ((r 0)) ((r 1)) ((r 2)) ((r 3)) ((r 4)) ((r 5)) ((r 6)) ((r 7)) ((r 8)) ((r 9)) ((r 10)) ((r 11)) ((r 12)) ((r 13)) ((r 14)) ((r 15)) ((r 16)) ((r 17)) ((r 18)) ((r 19)) ((r 20)) ((r 21)) ((r 22)) ((r 23)) ((r 24)) ((r 25)) ((r 26)) ((r 27)) ((r 28)) ((r 29)) ((r 30)) ((r 31)) ((r 32)) ((r 33)) ((j 4)) ((j 5))) (cwV 0 hts (gk_V tw_767 tw_768 tw_769 tw_505 wki_f_X12_waits wkg_f_X12_waits) rfl rfl rfl (by decide +kernel) ⟨Nat.le_of_ble_eq_true rfl, Nat.le_of_ble_eq_true rfl⟩) ⟨fun a U g mk q => by obtain ⟨q0, q1, qP, qK, qD⟩ := q; exact ⟨q0, q1, qP, va_K.moved (u := U) (U := U.calling g mk a) (Vm.Alike.refl U.vm) qK, qD⟩, va_recv hKc hPc (ci := 12) (q0 := 0) rfl rfl, fun U hU hW => ⟨rfl, by rw [hU], by rw [hU]; exact hPc, va_K.moved hW.alike hKc, hDc.weaken (fun _ _ _ _ => trivial)⟩⟩ rfl rfl hl.1 rfl (lv_room (Nat.le_of_ble_eq_true rfl)) dL_law_654 ⟨Nat.le_of_ble_eq_true rfl, Nat.le_of_ble_eq_true rfl⟩) hS (fun q _ h => hFc q h) hFc (fun oz4 u t H1 locs ht hvm gz3 hB hz1 hk1 hS => ?_)
  generalize H1 = H at hS ⊢
  refine W.widen (k := 305) (n := 4995) (Nat.le_of_ble_eq_true rfl) (Nat.le_of_ble_eq_true rfl) ?_
  obtain rfl := gz3
  refine lv_icmp_eq (tgt := 2293) hx hb dL_law_657 (by decide) (fun cz5 => ?_) (fun cz5 => ?_)
  · skip
    exact law_end (dC := dC) (dI := dI) (Nat.le_of_eq hL6) C0 A hAe (q 0) (r 0) H locs hS ls hl
  · skip
    exact absurd cz5 (by decide)
set_option maxHeartbeats 4000000 in
set_option maxRecDepth 100000 in
theorem law_case_12 {p : Program} {l : Launch} {e : Env} {s : State} {m : MethodId} {below : List Frame} {meth : Method} {c : Code} {dC : Nat → ClassId} {dI : Nat → Nat → Nat} {b L : Nat} {xs : Nat → Int32} (hL6 : L = 6) (C0 : lw_At p s m meth c b L xs) (A : Nat → Prop) (hAe : A = fun q => s.heap.size ≤ q) (q r : Nat → Nat) (k j : Nat → ClassId) (H : Heap) (locs : List Loc) (hK : va_K (dC, dI) vwCl (tX k ++ tM j) s) (hP : va_P (dC, dI) vwCl (wX q k ++ wM r j) H) (hD : va_D A (wX q k ++ wM r j)) (hS : va_S A s.heap H locs) (ls : Array Slot) (hl : lv_has ls 4 [(0, .ref b), (1, .ref (q 0)), (2, .ref (r 0)), (3, .int 0)]) : W p l e room_1 s m #[Value.ref b] below meth c H locs 305 4995 (lw_Z below #[Value.ref b] s) (F0 m 662 ls []) := by
  obtain ⟨hx, hb, hr, hml, hown, hts, hX, hbl, hlocks, hgv⟩ := id C0
  have hown : s.vm.findClass RL = some m.cls := hown
  have hA : ∀ q : Nat, s.heap.size ≤ q → A q := by rw [hAe]; exact fun _ h => h
  have hbA : ¬ A b := by rw [hAe]; exact Nat.not_le.mpr hbl
  refine lv_aload_n hx hb dL_law_662 rfl (lv_at hl 1 rfl) ?_
  refine lv_aload_n hx hb dL_law_663 rfl (lv_at hl 0 rfl) ?_
  refine lv_iload_n hx hb dL_law_664 rfl (lv_at hl 3 rfl) ?_
  refine lv_iconst (v := 1) hx hb dL_law_665 (by decide) ?_
  refine lv_iadd hx hb dL_law_666 ?_
  refine lv_topi (fun xz1 exz1 => ?_)
  obtain rfl : xz1 = 1 := exz1.trans (by decide)
  refine va_sld hx hb hX hbl hbA hS (by rw [hL6]; unfold vp_in; decide) dL_law_667 ?_
  refine W.eq (g2 := F0 m 668 ls [.int (xs 1), .ref (q 0)]) rfl ?_
  refine lv_aload_n hx hb dL_law_668 rfl (lv_at hl 0 rfl) ?_
  refine lv_iload_n hx hb dL_law_669 rfl (lv_at hl 3 rfl) ?_
  refine lv_iconst (v := 2) hx hb dL_law_670 (by decide) ?_
  refine lv_iadd hx hb dL_law_671 ?_
  refine lv_topi (fun xz2 exz2 => ?_)
  obtain rfl : xz2 = 2 := exz2.trans (by decide)
  refine va_sld hx hb hX hbl hbA hS (by rw [hL6]; unfold vp_in; decide) dL_law_672 ?_
  refine W.eq (g2 := F0 m 673 ls [.int (xs 2), .int (xs 1), .ref (q 0)]) rfl ?_
  have hPc := hP.sub (ws' := [((q 0), .inr (11, [.ref (q 1), .ref (q 2), .ref (q 3), .ref (q 4), .ref (q 5), .ref (q 6), .ref (q 7), .ref (q 8), .ref (q 9), .ref (q 10), .ref (q 11), .ref (q 12), .ref (q 13), .ref (q 14), .ref (q 15)])), ((q 2), .inr (10, [.ref (q 25), .ref (q 26), .ref (q 27), .ref (q 28), .ref (q 29), .ref (q 30), .ref (q 31), .int 0, .int 0, .int 0, .int 0, .int 0, .int 0, .int 0, .int 0, .int 0]))]) [0, 11] rfl
  have hKc := hK.sub (tys' := []) [] rfl
  refine vp_callSi (va_Run.run (va_runV (As := [.int (xs 1), .int (xs 2)]) (rest := []) ⟨hx, hb, hml, hown, hts⟩ (f_X11_deep l dC dI ((q 0)) ((q 1)) ((q 2)) ((q 3)) ((q 4)) ((q 5)) ((q 6)) ((q 7)) ((q 8)) ((q 9)) ((q 10)) ((q 11)) ((q 12)) ((q 13)) ((q 14)) ((q 15)) ((q 25)) ((q 26)) ((q 27)) ((q 28)) ((q 29)) ((q 30)) ((q 31)) ((xs 1)) ((xs 2))) (cwV 2 hts (gk_V tw_770 tw_771 tw_772 tw_157 wki_f_X11_deep wkg_f_X11_deep) rfl rfl rfl (by decide +kernel) ⟨Nat.le_of_ble_eq_true rfl, Nat.le_of_ble_eq_true rfl⟩) ⟨fun a U g mk q => by obtain ⟨q0, qP, qK⟩ := q; exact ⟨q0, qP, va_K.moved (u := U) (U := U.calling g mk a) (Vm.Alike.refl U.vm) qK⟩, va_recv hKc hPc (ci := 11) (q0 := 0) rfl rfl, fun U hU hW => ⟨rfl, by rw [hU]; exact hPc, va_K.moved hW.alike hKc⟩⟩ rfl rfl hl.1 rfl (lv_room (Nat.le_of_ble_eq_true rfl)) dL_law_673 ⟨Nat.le_of_ble_eq_true rfl, Nat.le_of_ble_eq_true rfl⟩)) (fun oz4 gz3 => ?_)
  obtain rfl := gz3
  refine lv_aload_n hx hb dL_law_676 rfl (lv_at hl 2 rfl) ?_
  refine lv_aload_n hx hb dL_law_677 rfl (lv_at hl 0 rfl) ?_
  refine lv_iload_n hx hb dL_law_678 rfl (lv_at hl 3 rfl) ?_
  refine lv_iconst (v := 1) hx hb dL_law_679 (by decide) ?_
  refine lv_iadd hx hb dL_law_680 ?_
  refine lv_topi (fun xz5 exz5 => ?_)
  obtain rfl : xz5 = 1 := exz5.trans (by decide)
  refine va_sld hx hb hX hbl hbA hS (by rw [hL6]; unfold vp_in; decide) dL_law_681 ?_
  refine W.eq (g2 := F0 m 682 ls [.int (xs 1), .ref (r 0), .int (-2)]) rfl ?_
  refine lv_aload_n hx hb dL_law_682 rfl (lv_at hl 0 rfl) ?_
  refine lv_iload_n hx hb dL_law_683 rfl (lv_at hl 3 rfl) ?_
  refine lv_iconst (v := 2) hx hb dL_law_684 (by decide) ?_
  refine lv_iadd hx hb dL_law_685 ?_
  refine lv_topi (fun xz6 exz6 => ?_)
  obtain rfl : xz6 = 2 := exz6.trans (by decide)
  refine va_sld hx hb hX hbl hbA hS (by rw [hL6]; unfold vp_in; decide) dL_law_686 ?_
  refine W.eq (g2 := F0 m 687 ls [.int (xs 2), .int (xs 1), .ref (r 0), .int (-2)]) rfl ?_
  have hPc := hP.sub (ws' := [((r 0), .inr (12, [.int 0, .ref (r 1), .ref (r 2), .ref (r 3), .ref (r 4), .ref (r 5), .int 0, .int 0, .int 0, .int 0, .int 0, .long 0, .int 0, .int 0, .int 0, .int (-1), .ref (r 6), .ref (r 7), .ref (r 8), .ref (r 9), .ref (r 10), .ref (r 11), .ref (r 12), .ref (r 13), .int 0, .int 0, .int 0, .ref (r 14), .ref (r 15), .ref (r 16), .ref (r 17), .ref (r 18), .ref (r 19), .ref (r 20), .ref (r 21), .ref (r 22), .ref (r 23), .ref (r 24), .ref (r 25), .ref (r 26), .ref (r 27), .ref (r 28), .ref (r 29), .int 0, .int 0, .int 0, .ref (r 30), .int 0, .int 0, .int 0, .int 0, .int 0, .int 0, .ref (r 31), .int 0, .int 0, .int 0, .ref (r 32), .ref (r 33)])), ((r 6), .inl ((j 4), 5, .inl (fun _ => 0))), ((r 7), .inl ((j 5), 40, .inl (fun _ => 0)))]) [78, 83, 84] rfl
  have hKc := hK.sub (tys' := [((j 4), .int), ((j 5), .int)]) [60, 61] rfl
  have hDc := hD.sub (ws' := [((r 0), .inr (12, [.int 0, .ref (r 1), .ref (r 2), .ref (r 3), .ref (r 4), .ref (r 5), .int 0, .int 0, .int 0, .int 0, .int 0, .long 0, .int 0, .int 0, .int 0, .int (-1), .ref (r 6), .ref (r 7), .ref (r 8), .ref (r 9), .ref (r 10), .ref (r 11), .ref (r 12), .ref (r 13), .int 0, .int 0, .int 0, .ref (r 14), .ref (r 15), .ref (r 16), .ref (r 17), .ref (r 18), .ref (r 19), .ref (r 20), .ref (r 21), .ref (r 22), .ref (r 23), .ref (r 24), .ref (r 25), .ref (r 26), .ref (r 27), .ref (r 28), .ref (r 29), .int 0, .int 0, .int 0, .ref (r 30), .int 0, .int 0, .int 0, .int 0, .int 0, .int 0, .ref (r 31), .int 0, .int 0, .int 0, .ref (r 32), .ref (r 33)])), ((r 6), .inl ((j 4), 5, .inl (fun _ => 0))), ((r 7), .inl ((j 5), 40, .inl (fun _ => 0)))]) [78, 83, 84] (by decide) rfl
  have hFc := va_free (wc := [((r 0), .inr (12, [.int 0, .ref (r 1), .ref (r 2), .ref (r 3), .ref (r 4), .ref (r 5), .int 0, .int 0, .int 0, .int 0, .int 0, .long 0, .int 0, .int 0, .int 0, .int (-1), .ref (r 6), .ref (r 7), .ref (r 8), .ref (r 9), .ref (r 10), .ref (r 11), .ref (r 12), .ref (r 13), .int 0, .int 0, .int 0, .ref (r 14), .ref (r 15), .ref (r 16), .ref (r 17), .ref (r 18), .ref (r 19), .ref (r 20), .ref (r 21), .ref (r 22), .ref (r 23), .ref (r 24), .ref (r 25), .ref (r 26), .ref (r 27), .ref (r 28), .ref (r 29), .int 0, .int 0, .int 0, .ref (r 30), .int 0, .int 0, .int 0, .int 0, .int 0, .int 0, .ref (r 31), .int 0, .int 0, .int 0, .ref (r 32), .ref (r 33)])), ((r 6), .inl ((j 4), 5, .inl (fun _ => 0))), ((r 7), .inl ((j 5), 40, .inl (fun _ => 0)))]) hD hS hA [78, 83, 84] rfl
  refine va_calli (va_runV (As := [.int (xs 1), .int (xs 2)]) (rest := [.int (-2)]) ⟨hx, hb, hml, hown, hts⟩ (f_X12_deep l dC dI H.size ((r 0)) ((r 1)) ((r 2)) ((r 3)) ((r 4)) ((r 5)) ((r 6)) ((r 7)) ((r 8)) ((r 9)) ((r 10)) ((r 11)) ((r 12)) ((r 13)) ((r 14)) ((r 15)) ((r 16)) ((r 17)) ((r 18)) ((r 19)) ((r 20)) ((r 21)) ((r 22)) ((r 23)) ((r 24)) ((r 25)) ((r 26)) ((r 27)) ((r 28)) ((r 29)) ((r 30)) ((r 31)) ((r 32)) ((r 33)) ((j 4)) ((j 5)) ((xs 1)) ((xs 2))) (cwV 2 hts (gk_V tw_773 tw_774 tw_775 tw_505 wki_f_X12_deep wkg_f_X12_deep) rfl rfl rfl (by decide +kernel) ⟨Nat.le_of_ble_eq_true rfl, Nat.le_of_ble_eq_true rfl⟩) ⟨fun a U g mk q => by obtain ⟨q0, q1, qP, qK, qD⟩ := q; exact ⟨q0, q1, qP, va_K.moved (u := U) (U := U.calling g mk a) (Vm.Alike.refl U.vm) qK, qD⟩, va_recv hKc hPc (ci := 12) (q0 := 0) rfl rfl, fun U hU hW => ⟨rfl, by rw [hU], by rw [hU]; exact hPc, va_K.moved hW.alike hKc, hDc.weaken (fun _ _ _ _ => trivial)⟩⟩ rfl rfl hl.1 rfl (lv_room (Nat.le_of_ble_eq_true rfl)) dL_law_687 ⟨Nat.le_of_ble_eq_true rfl, Nat.le_of_ble_eq_true rfl⟩) hS (fun q _ h => hFc q h) hFc (fun oz8 u t H1 locs ht hvm gz7 hB hz1 hk1 hS => ?_)
  generalize H1 = H at hS ⊢
  refine W.widen (k := 305) (n := 4995) (Nat.le_of_ble_eq_true rfl) (Nat.le_of_ble_eq_true rfl) ?_
  obtain rfl := gz7
  refine lv_icmp_eq (tgt := 2293) hx hb dL_law_690 (by decide) (fun cz9 => ?_) (fun cz9 => ?_)
  · skip
    exact law_end (dC := dC) (dI := dI) (Nat.le_of_eq hL6) C0 A hAe (q 0) (r 0) H locs hS ls hl
  · skip
    exact absurd cz9 (by decide)
set_option maxHeartbeats 4000000 in
set_option maxRecDepth 100000 in
theorem law_case_13 {p : Program} {l : Launch} {e : Env} {s : State} {m : MethodId} {below : List Frame} {meth : Method} {c : Code} {dC : Nat → ClassId} {dI : Nat → Nat → Nat} {b L : Nat} {xs : Nat → Int32} (hL6 : L = 6) (C0 : lw_At p s m meth c b L xs) (A : Nat → Prop) (hAe : A = fun q => s.heap.size ≤ q) (q r : Nat → Nat) (k j : Nat → ClassId) (H : Heap) (locs : List Loc) (hK : va_K (dC, dI) vwCl (tX k ++ tM j) s) (hP : va_P (dC, dI) vwCl (wX q k ++ wM r j) H) (hD : va_D A (wX q k ++ wM r j)) (hS : va_S A s.heap H locs) (ls : Array Slot) (hl : lv_has ls 4 [(0, .ref b), (1, .ref (q 0)), (2, .ref (r 0)), (3, .int 0)]) : W p l e room_1 s m #[Value.ref b] below meth c H locs 305 4995 (lw_Z below #[Value.ref b] s) (F0 m 695 ls []) := by
  obtain ⟨hx, hb, hr, hml, hown, hts, hX, hbl, hlocks, hgv⟩ := id C0
  have hown : s.vm.findClass RL = some m.cls := hown
  have hA : ∀ q : Nat, s.heap.size ≤ q → A q := by rw [hAe]; exact fun _ h => h
  have hbA : ¬ A b := by rw [hAe]; exact Nat.not_le.mpr hbl
  refine lv_aload_n hx hb dL_law_695 rfl (lv_at hl 1 rfl) ?_
  refine lv_aload_n hx hb dL_law_696 rfl (lv_at hl 0 rfl) ?_
  refine lv_iload_n hx hb dL_law_697 rfl (lv_at hl 3 rfl) ?_
  refine lv_iconst (v := 1) hx hb dL_law_698 (by decide) ?_
  refine lv_iadd hx hb dL_law_699 ?_
  refine lv_topi (fun xz1 exz1 => ?_)
  obtain rfl : xz1 = 1 := exz1.trans (by decide)
  refine va_sld hx hb hX hbl hbA hS (by rw [hL6]; unfold vp_in; decide) dL_law_700 ?_
  refine W.eq (g2 := F0 m 701 ls [.int (xs 1), .ref (q 0)]) rfl ?_
  refine lv_aload_n hx hb dL_law_701 rfl (lv_at hl 0 rfl) ?_
  refine lv_iload_n hx hb dL_law_702 rfl (lv_at hl 3 rfl) ?_
  refine lv_iconst (v := 2) hx hb dL_law_703 (by decide) ?_
  refine lv_iadd hx hb dL_law_704 ?_
  refine lv_topi (fun xz2 exz2 => ?_)
  obtain rfl : xz2 = 2 := exz2.trans (by decide)
  refine va_sld hx hb hX hbl hbA hS (by rw [hL6]; unfold vp_in; decide) dL_law_705 ?_
  refine W.eq (g2 := F0 m 706 ls [.int (xs 2), .int (xs 1), .ref (q 0)]) rfl ?_
  refine lv_aload_n hx hb dL_law_706 rfl (lv_at hl 0 rfl) ?_
  refine lv_iload_n hx hb dL_law_707 rfl (lv_at hl 3 rfl) ?_
  refine lv_iconst (v := 3) hx hb dL_law_708 (by decide) ?_
  refine lv_iadd hx hb dL_law_709 ?_
  refine lv_topi (fun xz3 exz3 => ?_)
  obtain rfl : xz3 = 3 := exz3.trans (by decide)
  refine va_sld hx hb hX hbl hbA hS (by rw [hL6]; unfold vp_in; decide) dL_law_710 ?_
  refine W.eq (g2 := F0 m 711 ls [.int (xs 3), .int (xs 2), .int (xs 1), .ref (q 0)]) rfl ?_
  have hPc := hP.sub (ws' := [((q 0), .inr (11, [.ref (q 1), .ref (q 2), .ref (q 3), .ref (q 4), .ref (q 5), .ref (q 6), .ref (q 7), .ref (q 8), .ref (q 9), .ref (q 10), .ref (q 11), .ref (q 12), .ref (q 13), .ref (q 14), .ref (q 15)])), ((q 2), .inr (10, [.ref (q 25), .ref (q 26), .ref (q 27), .ref (q 28), .ref (q 29), .ref (q 30), .ref (q 31), .int 0, .int 0, .int 0, .int 0, .int 0, .int 0, .int 0, .int 0, .int 0]))]) [0, 11] rfl
  have hKc := hK.sub (tys' := []) [] rfl
  refine vp_callSi (va_Run.run (va_runV (As := [.int (xs 1), .int (xs 2), .int (xs 3)]) (rest := []) ⟨hx, hb, hml, hown, hts⟩ (f_X11_load l dC dI ((q 0)) ((q 1)) ((q 2)) ((q 3)) ((q 4)) ((q 5)) ((q 6)) ((q 7)) ((q 8)) ((q 9)) ((q 10)) ((q 11)) ((q 12)) ((q 13)) ((q 14)) ((q 15)) ((q 25)) ((q 26)) ((q 27)) ((q 28)) ((q 29)) ((q 30)) ((q 31)) ((xs 1)) ((xs 2)) ((xs 3))) (cwV 3 hts (gk_V tw_776 tw_777 tw_778 tw_157 wki_f_X11_load wkg_f_X11_load) rfl rfl rfl (by decide +kernel) ⟨Nat.le_of_ble_eq_true rfl, Nat.le_of_ble_eq_true rfl⟩) ⟨fun a U g mk q => by obtain ⟨q0, qP, qK⟩ := q; exact ⟨q0, qP, va_K.moved (u := U) (U := U.calling g mk a) (Vm.Alike.refl U.vm) qK⟩, va_recv hKc hPc (ci := 11) (q0 := 0) rfl rfl, fun U hU hW => ⟨rfl, by rw [hU]; exact hPc, va_K.moved hW.alike hKc⟩⟩ rfl rfl hl.1 rfl (lv_room (Nat.le_of_ble_eq_true rfl)) dL_law_711 ⟨Nat.le_of_ble_eq_true rfl, Nat.le_of_ble_eq_true rfl⟩)) (fun oz5 gz4 => ?_)
  obtain rfl := gz4
  refine lv_aload_n hx hb dL_law_714 rfl (lv_at hl 2 rfl) ?_
  refine lv_aload_n hx hb dL_law_715 rfl (lv_at hl 0 rfl) ?_
  refine lv_iload_n hx hb dL_law_716 rfl (lv_at hl 3 rfl) ?_
  refine lv_iconst (v := 1) hx hb dL_law_717 (by decide) ?_
  refine lv_iadd hx hb dL_law_718 ?_
  refine lv_topi (fun xz6 exz6 => ?_)
  obtain rfl : xz6 = 1 := exz6.trans (by decide)
  refine va_sld hx hb hX hbl hbA hS (by rw [hL6]; unfold vp_in; decide) dL_law_719 ?_
  refine W.eq (g2 := F0 m 720 ls [.int (xs 1), .ref (r 0), .int (-2)]) rfl ?_
  refine lv_aload_n hx hb dL_law_720 rfl (lv_at hl 0 rfl) ?_
  refine lv_iload_n hx hb dL_law_721 rfl (lv_at hl 3 rfl) ?_
  refine lv_iconst (v := 2) hx hb dL_law_722 (by decide) ?_
  refine lv_iadd hx hb dL_law_723 ?_
  refine lv_topi (fun xz7 exz7 => ?_)
  obtain rfl : xz7 = 2 := exz7.trans (by decide)
  refine va_sld hx hb hX hbl hbA hS (by rw [hL6]; unfold vp_in; decide) dL_law_724 ?_
  refine W.eq (g2 := F0 m 725 ls [.int (xs 2), .int (xs 1), .ref (r 0), .int (-2)]) rfl ?_
  refine lv_aload_n hx hb dL_law_725 rfl (lv_at hl 0 rfl) ?_
  refine lv_iload_n hx hb dL_law_726 rfl (lv_at hl 3 rfl) ?_
  refine lv_iconst (v := 3) hx hb dL_law_727 (by decide) ?_
  refine lv_iadd hx hb dL_law_728 ?_
  refine lv_topi (fun xz8 exz8 => ?_)
  obtain rfl : xz8 = 3 := exz8.trans (by decide)
  refine va_sld hx hb hX hbl hbA hS (by rw [hL6]; unfold vp_in; decide) dL_law_729 ?_
  refine W.eq (g2 := F0 m 730 ls [.int (xs 3), .int (xs 2), .int (xs 1), .ref (r 0), .int (-2)]) rfl ?_
  have hPc := hP.sub (ws' := [((r 0), .inr (12, [.int 0, .ref (r 1), .ref (r 2), .ref (r 3), .ref (r 4), .ref (r 5), .int 0, .int 0, .int 0, .int 0, .int 0, .long 0, .int 0, .int 0, .int 0, .int (-1), .ref (r 6), .ref (r 7), .ref (r 8), .ref (r 9), .ref (r 10), .ref (r 11), .ref (r 12), .ref (r 13), .int 0, .int 0, .int 0, .ref (r 14), .ref (r 15), .ref (r 16), .ref (r 17), .ref (r 18), .ref (r 19), .ref (r 20), .ref (r 21), .ref (r 22), .ref (r 23), .ref (r 24), .ref (r 25), .ref (r 26), .ref (r 27), .ref (r 28), .ref (r 29), .int 0, .int 0, .int 0, .ref (r 30), .int 0, .int 0, .int 0, .int 0, .int 0, .int 0, .ref (r 31), .int 0, .int 0, .int 0, .ref (r 32), .ref (r 33)])), ((r 6), .inl ((j 4), 5, .inl (fun _ => 0))), ((r 7), .inl ((j 5), 40, .inl (fun _ => 0)))]) [78, 83, 84] rfl
  have hKc := hK.sub (tys' := [((j 4), .int), ((j 5), .int)]) [60, 61] rfl
  have hDc := hD.sub (ws' := [((r 0), .inr (12, [.int 0, .ref (r 1), .ref (r 2), .ref (r 3), .ref (r 4), .ref (r 5), .int 0, .int 0, .int 0, .int 0, .int 0, .long 0, .int 0, .int 0, .int 0, .int (-1), .ref (r 6), .ref (r 7), .ref (r 8), .ref (r 9), .ref (r 10), .ref (r 11), .ref (r 12), .ref (r 13), .int 0, .int 0, .int 0, .ref (r 14), .ref (r 15), .ref (r 16), .ref (r 17), .ref (r 18), .ref (r 19), .ref (r 20), .ref (r 21), .ref (r 22), .ref (r 23), .ref (r 24), .ref (r 25), .ref (r 26), .ref (r 27), .ref (r 28), .ref (r 29), .int 0, .int 0, .int 0, .ref (r 30), .int 0, .int 0, .int 0, .int 0, .int 0, .int 0, .ref (r 31), .int 0, .int 0, .int 0, .ref (r 32), .ref (r 33)])), ((r 6), .inl ((j 4), 5, .inl (fun _ => 0))), ((r 7), .inl ((j 5), 40, .inl (fun _ => 0)))]) [78, 83, 84] (by decide) rfl
  have hFc := va_free (wc := [((r 0), .inr (12, [.int 0, .ref (r 1), .ref (r 2), .ref (r 3), .ref (r 4), .ref (r 5), .int 0, .int 0, .int 0, .int 0, .int 0, .long 0, .int 0, .int 0, .int 0, .int (-1), .ref (r 6), .ref (r 7), .ref (r 8), .ref (r 9), .ref (r 10), .ref (r 11), .ref (r 12), .ref (r 13), .int 0, .int 0, .int 0, .ref (r 14), .ref (r 15), .ref (r 16), .ref (r 17), .ref (r 18), .ref (r 19), .ref (r 20), .ref (r 21), .ref (r 22), .ref (r 23), .ref (r 24), .ref (r 25), .ref (r 26), .ref (r 27), .ref (r 28), .ref (r 29), .int 0, .int 0, .int 0, .ref (r 30), .int 0, .int 0, .int 0, .int 0, .int 0, .int 0, .ref (r 31), .int 0, .int 0, .int 0, .ref (r 32), .ref (r 33)])), ((r 6), .inl ((j 4), 5, .inl (fun _ => 0))), ((r 7), .inl ((j 5), 40, .inl (fun _ => 0)))]) hD hS hA [78, 83, 84] rfl
  refine va_calli (va_runV (As := [.int (xs 1), .int (xs 2), .int (xs 3)]) (rest := [.int (-2)]) ⟨hx, hb, hml, hown, hts⟩ (f_X12_load l dC dI H.size ((r 0)) ((r 1)) ((r 2)) ((r 3)) ((r 4)) ((r 5)) ((r 6)) ((r 7)) ((r 8)) ((r 9)) ((r 10)) ((r 11)) ((r 12)) ((r 13)) ((r 14)) ((r 15)) ((r 16)) ((r 17)) ((r 18)) ((r 19)) ((r 20)) ((r 21)) ((r 22)) ((r 23)) ((r 24)) ((r 25)) ((r 26)) ((r 27)) ((r 28)) ((r 29)) ((r 30)) ((r 31)) ((r 32)) ((r 33)) ((j 4)) ((j 5)) ((xs 1)) ((xs 2)) ((xs 3))) (cwV 3 hts (gk_V tw_779 tw_780 tw_781 tw_505 wki_f_X12_load wkg_f_X12_load) rfl rfl rfl (by decide +kernel) ⟨Nat.le_of_ble_eq_true rfl, Nat.le_of_ble_eq_true rfl⟩) ⟨fun a U g mk q => by obtain ⟨q0, q1, qP, qK, qD⟩ := q; exact ⟨q0, q1, qP, va_K.moved (u := U) (U := U.calling g mk a) (Vm.Alike.refl U.vm) qK, qD⟩, va_recv hKc hPc (ci := 12) (q0 := 0) rfl rfl, fun U hU hW => ⟨rfl, by rw [hU], by rw [hU]; exact hPc, va_K.moved hW.alike hKc, hDc.weaken (fun _ _ _ _ => trivial)⟩⟩ rfl rfl hl.1 rfl (lv_room (Nat.le_of_ble_eq_true rfl)) dL_law_730 ⟨Nat.le_of_ble_eq_true rfl, Nat.le_of_ble_eq_true rfl⟩) hS (fun q _ h => hFc q h) hFc (fun oz10 u t H1 locs ht hvm gz9 hB hz1 hk1 hS => ?_)
  generalize H1 = H at hS ⊢
  refine W.widen (k := 305) (n := 4995) (Nat.le_of_ble_eq_true rfl) (Nat.le_of_ble_eq_true rfl) ?_
  obtain rfl := gz9
  refine lv_icmp_eq (tgt := 2293) hx hb dL_law_733 (by decide) (fun cz11 => ?_) (fun cz11 => ?_)
  · skip
    exact law_end (dC := dC) (dI := dI) (Nat.le_of_eq hL6) C0 A hAe (q 0) (r 0) H locs hS ls hl
  · skip
    exact absurd cz11 (by decide)
set_option maxHeartbeats 4000000 in
set_option maxRecDepth 100000 in
theorem law_case_14 {p : Program} {l : Launch} {e : Env} {s : State} {m : MethodId} {below : List Frame} {meth : Method} {c : Code} {dC : Nat → ClassId} {dI : Nat → Nat → Nat} {b L : Nat} {xs : Nat → Int32} (hL6 : L = 6) (C0 : lw_At p s m meth c b L xs) (A : Nat → Prop) (hAe : A = fun q => s.heap.size ≤ q) (q r : Nat → Nat) (k j : Nat → ClassId) (H : Heap) (locs : List Loc) (hK : va_K (dC, dI) vwCl (tX k ++ tM j) s) (hP : va_P (dC, dI) vwCl (wX q k ++ wM r j) H) (hD : va_D A (wX q k ++ wM r j)) (hS : va_S A s.heap H locs) (ls : Array Slot) (hl : lv_has ls 4 [(0, .ref b), (1, .ref (q 0)), (2, .ref (r 0)), (3, .int 0)]) : W p l e room_1 s m #[Value.ref b] below meth c H locs 305 4995 (lw_Z below #[Value.ref b] s) (F0 m 738 ls []) := by
  obtain ⟨hx, hb, hr, hml, hown, hts, hX, hbl, hlocks, hgv⟩ := id C0
  have hown : s.vm.findClass RL = some m.cls := hown
  have hA : ∀ q : Nat, s.heap.size ≤ q → A q := by rw [hAe]; exact fun _ h => h
  have hbA : ¬ A b := by rw [hAe]; exact Nat.not_le.mpr hbl
  refine lv_aload_n hx hb dL_law_738 rfl (lv_at hl 1 rfl) ?_
  refine lv_aload_n hx hb dL_law_739 rfl (lv_at hl 0 rfl) ?_
  refine lv_iload_n hx hb dL_law_740 rfl (lv_at hl 3 rfl) ?_
  refine lv_iconst (v := 1) hx hb dL_law_741 (by decide) ?_
  refine lv_iadd hx hb dL_law_742 ?_
  refine lv_topi (fun xz1 exz1 => ?_)
  obtain rfl : xz1 = 1 := exz1.trans (by decide)
  refine va_sld hx hb hX hbl hbA hS (by rw [hL6]; unfold vp_in; decide) dL_law_743 ?_
  refine W.eq (g2 := F0 m 744 ls [.int (xs 1), .ref (q 0)]) rfl ?_
  refine lv_aload_n hx hb dL_law_744 rfl (lv_at hl 0 rfl) ?_
  refine lv_iload_n hx hb dL_law_745 rfl (lv_at hl 3 rfl) ?_
  refine lv_iconst (v := 2) hx hb dL_law_746 (by decide) ?_
  refine lv_iadd hx hb dL_law_747 ?_
  refine lv_topi (fun xz2 exz2 => ?_)
  obtain rfl : xz2 = 2 := exz2.trans (by decide)
  refine va_sld hx hb hX hbl hbA hS (by rw [hL6]; unfold vp_in; decide) dL_law_748 ?_
  refine W.eq (g2 := F0 m 749 ls [.int (xs 2), .int (xs 1), .ref (q 0)]) rfl ?_
  have hPc := hP.sub (ws' := [((q 0), .inr (11, [.ref (q 1), .ref (q 2), .ref (q 3), .ref (q 4), .ref (q 5), .ref (q 6), .ref (q 7), .ref (q 8), .ref (q 9), .ref (q 10), .ref (q 11), .ref (q 12), .ref (q 13), .ref (q 14), .ref (q 15)])), ((q 2), .inr (10, [.ref (q 25), .ref (q 26), .ref (q 27), .ref (q 28), .ref (q 29), .ref (q 30), .ref (q 31), .int 0, .int 0, .int 0, .int 0, .int 0, .int 0, .int 0, .int 0, .int 0]))]) [0, 11] rfl
  have hKc := hK.sub (tys' := []) [] rfl
  refine vp_callSi (va_Run.run (va_runV (As := [.int (xs 1), .int (xs 2)]) (rest := []) ⟨hx, hb, hml, hown, hts⟩ (f_X11_sag l dC dI ((q 0)) ((q 1)) ((q 2)) ((q 3)) ((q 4)) ((q 5)) ((q 6)) ((q 7)) ((q 8)) ((q 9)) ((q 10)) ((q 11)) ((q 12)) ((q 13)) ((q 14)) ((q 15)) ((q 25)) ((q 26)) ((q 27)) ((q 28)) ((q 29)) ((q 30)) ((q 31)) ((xs 1)) ((xs 2))) (cwV 2 hts (gk_V tw_782 tw_783 tw_784 tw_157 wki_f_X11_sag wkg_f_X11_sag) rfl rfl rfl (by decide +kernel) ⟨Nat.le_of_ble_eq_true rfl, Nat.le_of_ble_eq_true rfl⟩) ⟨fun a U g mk q => by obtain ⟨q0, qP, qK⟩ := q; exact ⟨q0, qP, va_K.moved (u := U) (U := U.calling g mk a) (Vm.Alike.refl U.vm) qK⟩, va_recv hKc hPc (ci := 11) (q0 := 0) rfl rfl, fun U hU hW => ⟨rfl, by rw [hU]; exact hPc, va_K.moved hW.alike hKc⟩⟩ rfl rfl hl.1 rfl (lv_room (Nat.le_of_ble_eq_true rfl)) dL_law_749 ⟨Nat.le_of_ble_eq_true rfl, Nat.le_of_ble_eq_true rfl⟩)) (fun oz4 gz3 => ?_)
  obtain rfl := gz3
  refine lv_aload_n hx hb dL_law_752 rfl (lv_at hl 2 rfl) ?_
  refine lv_aload_n hx hb dL_law_753 rfl (lv_at hl 0 rfl) ?_
  refine lv_iload_n hx hb dL_law_754 rfl (lv_at hl 3 rfl) ?_
  refine lv_iconst (v := 1) hx hb dL_law_755 (by decide) ?_
  refine lv_iadd hx hb dL_law_756 ?_
  refine lv_topi (fun xz5 exz5 => ?_)
  obtain rfl : xz5 = 1 := exz5.trans (by decide)
  refine va_sld hx hb hX hbl hbA hS (by rw [hL6]; unfold vp_in; decide) dL_law_757 ?_
  refine W.eq (g2 := F0 m 758 ls [.int (xs 1), .ref (r 0), .int (-2)]) rfl ?_
  refine lv_aload_n hx hb dL_law_758 rfl (lv_at hl 0 rfl) ?_
  refine lv_iload_n hx hb dL_law_759 rfl (lv_at hl 3 rfl) ?_
  refine lv_iconst (v := 2) hx hb dL_law_760 (by decide) ?_
  refine lv_iadd hx hb dL_law_761 ?_
  refine lv_topi (fun xz6 exz6 => ?_)
  obtain rfl : xz6 = 2 := exz6.trans (by decide)
  refine va_sld hx hb hX hbl hbA hS (by rw [hL6]; unfold vp_in; decide) dL_law_762 ?_
  refine W.eq (g2 := F0 m 763 ls [.int (xs 2), .int (xs 1), .ref (r 0), .int (-2)]) rfl ?_
  have hPc := hP.sub (ws' := [((r 0), .inr (12, [.int 0, .ref (r 1), .ref (r 2), .ref (r 3), .ref (r 4), .ref (r 5), .int 0, .int 0, .int 0, .int 0, .int 0, .long 0, .int 0, .int 0, .int 0, .int (-1), .ref (r 6), .ref (r 7), .ref (r 8), .ref (r 9), .ref (r 10), .ref (r 11), .ref (r 12), .ref (r 13), .int 0, .int 0, .int 0, .ref (r 14), .ref (r 15), .ref (r 16), .ref (r 17), .ref (r 18), .ref (r 19), .ref (r 20), .ref (r 21), .ref (r 22), .ref (r 23), .ref (r 24), .ref (r 25), .ref (r 26), .ref (r 27), .ref (r 28), .ref (r 29), .int 0, .int 0, .int 0, .ref (r 30), .int 0, .int 0, .int 0, .int 0, .int 0, .int 0, .ref (r 31), .int 0, .int 0, .int 0, .ref (r 32), .ref (r 33)])), ((r 6), .inl ((j 4), 5, .inl (fun _ => 0))), ((r 7), .inl ((j 5), 40, .inl (fun _ => 0)))]) [78, 83, 84] rfl
  have hKc := hK.sub (tys' := [((j 4), .int), ((j 5), .int)]) [60, 61] rfl
  have hDc := hD.sub (ws' := [((r 0), .inr (12, [.int 0, .ref (r 1), .ref (r 2), .ref (r 3), .ref (r 4), .ref (r 5), .int 0, .int 0, .int 0, .int 0, .int 0, .long 0, .int 0, .int 0, .int 0, .int (-1), .ref (r 6), .ref (r 7), .ref (r 8), .ref (r 9), .ref (r 10), .ref (r 11), .ref (r 12), .ref (r 13), .int 0, .int 0, .int 0, .ref (r 14), .ref (r 15), .ref (r 16), .ref (r 17), .ref (r 18), .ref (r 19), .ref (r 20), .ref (r 21), .ref (r 22), .ref (r 23), .ref (r 24), .ref (r 25), .ref (r 26), .ref (r 27), .ref (r 28), .ref (r 29), .int 0, .int 0, .int 0, .ref (r 30), .int 0, .int 0, .int 0, .int 0, .int 0, .int 0, .ref (r 31), .int 0, .int 0, .int 0, .ref (r 32), .ref (r 33)])), ((r 6), .inl ((j 4), 5, .inl (fun _ => 0))), ((r 7), .inl ((j 5), 40, .inl (fun _ => 0)))]) [78, 83, 84] (by decide) rfl
  have hFc := va_free (wc := [((r 0), .inr (12, [.int 0, .ref (r 1), .ref (r 2), .ref (r 3), .ref (r 4), .ref (r 5), .int 0, .int 0, .int 0, .int 0, .int 0, .long 0, .int 0, .int 0, .int 0, .int (-1), .ref (r 6), .ref (r 7), .ref (r 8), .ref (r 9), .ref (r 10), .ref (r 11), .ref (r 12), .ref (r 13), .int 0, .int 0, .int 0, .ref (r 14), .ref (r 15), .ref (r 16), .ref (r 17), .ref (r 18), .ref (r 19), .ref (r 20), .ref (r 21), .ref (r 22), .ref (r 23), .ref (r 24), .ref (r 25), .ref (r 26), .ref (r 27), .ref (r 28), .ref (r 29), .int 0, .int 0, .int 0, .ref (r 30), .int 0, .int 0, .int 0, .int 0, .int 0, .int 0, .ref (r 31), .int 0, .int 0, .int 0, .ref (r 32), .ref (r 33)])), ((r 6), .inl ((j 4), 5, .inl (fun _ => 0))), ((r 7), .inl ((j 5), 40, .inl (fun _ => 0)))]) hD hS hA [78, 83, 84] rfl
  refine va_calli (va_runV (As := [.int (xs 1), .int (xs 2)]) (rest := [.int (-2)]) ⟨hx, hb, hml, hown, hts⟩ (f_X12_sag l dC dI H.size ((r 0)) ((r 1)) ((r 2)) ((r 3)) ((r 4)) ((r 5)) ((r 6)) ((r 7)) ((r 8)) ((r 9)) ((r 10)) ((r 11)) ((r 12)) ((r 13)) ((r 14)) ((r 15)) ((r 16)) ((r 17)) ((r 18)) ((r 19)) ((r 20)) ((r 21)) ((r 22)) ((r 23)) ((r 24)) ((r 25)) ((r 26)) ((r 27)) ((r 28)) ((r 29)) ((r 30)) ((r 31)) ((r 32)) ((r 33)) ((j 4)) ((j 5)) ((xs 1)) ((xs 2))) (cwV 2 hts (gk_V tw_785 tw_786 tw_787 tw_505 wki_f_X12_sag wkg_f_X12_sag) rfl rfl rfl (by decide +kernel) ⟨Nat.le_of_ble_eq_true rfl, Nat.le_of_ble_eq_true rfl⟩) ⟨fun a U g mk q => by obtain ⟨q0, q1, qP, qK, qD⟩ := q; exact ⟨q0, q1, qP, va_K.moved (u := U) (U := U.calling g mk a) (Vm.Alike.refl U.vm) qK, qD⟩, va_recv hKc hPc (ci := 12) (q0 := 0) rfl rfl, fun U hU hW => ⟨rfl, by rw [hU], by rw [hU]; exact hPc, va_K.moved hW.alike hKc, hDc.weaken (fun _ _ _ _ => trivial)⟩⟩ rfl rfl hl.1 rfl (lv_room (Nat.le_of_ble_eq_true rfl)) dL_law_763 ⟨Nat.le_of_ble_eq_true rfl, Nat.le_of_ble_eq_true rfl⟩) hS (fun q _ h => hFc q h) hFc (fun oz8 u t H1 locs ht hvm gz7 hB hz1 hk1 hS => ?_)
  generalize H1 = H at hS ⊢
  refine W.widen (k := 305) (n := 4995) (Nat.le_of_ble_eq_true rfl) (Nat.le_of_ble_eq_true rfl) ?_
  obtain rfl := gz7
  refine lv_icmp_eq (tgt := 2293) hx hb dL_law_766 (by decide) (fun cz9 => ?_) (fun cz9 => ?_)
  · skip
    exact law_end (dC := dC) (dI := dI) (Nat.le_of_eq hL6) C0 A hAe (q 0) (r 0) H locs hS ls hl
  · skip
    exact absurd cz9 (by decide)
set_option maxHeartbeats 4000000 in
set_option maxRecDepth 100000 in
theorem law_case_15 {p : Program} {l : Launch} {e : Env} {s : State} {m : MethodId} {below : List Frame} {meth : Method} {c : Code} {dC : Nat → ClassId} {dI : Nat → Nat → Nat} {b L : Nat} {xs : Nat → Int32} (hL6 : L = 6) (C0 : lw_At p s m meth c b L xs) (A : Nat → Prop) (hAe : A = fun q => s.heap.size ≤ q) (q r : Nat → Nat) (k j : Nat → ClassId) (H : Heap) (locs : List Loc) (hK : va_K (dC, dI) vwCl (tX k ++ tM j) s) (hP : va_P (dC, dI) vwCl (wX q k ++ wM r j) H) (hD : va_D A (wX q k ++ wM r j)) (hS : va_S A s.heap H locs) (ls : Array Slot) (hl : lv_has ls 4 [(0, .ref b), (1, .ref (q 0)), (2, .ref (r 0)), (3, .int 0)]) : W p l e room_1 s m #[Value.ref b] below meth c H locs 305 4995 (lw_Z below #[Value.ref b] s) (F0 m 771 ls []) := by
  obtain ⟨hx, hb, hr, hml, hown, hts, hX, hbl, hlocks, hgv⟩ := id C0
  have hown : s.vm.findClass RL = some m.cls := hown
  have hA : ∀ q : Nat, s.heap.size ≤ q → A q := by rw [hAe]; exact fun _ h => h
  have hbA : ¬ A b := by rw [hAe]; exact Nat.not_le.mpr hbl
  refine lv_aload_n hx hb dL_law_771 rfl (lv_at hl 1 rfl) ?_
  refine lv_aload_n hx hb dL_law_772 rfl (lv_at hl 0 rfl) ?_
  refine lv_iload_n hx hb dL_law_773 rfl (lv_at hl 3 rfl) ?_
  refine lv_iconst (v := 1) hx hb dL_law_774 (by decide) ?_
  refine lv_iadd hx hb dL_law_775 ?_
  refine lv_topi (fun xz1 exz1 => ?_)
  obtain rfl : xz1 = 1 := exz1.trans (by decide)
  refine va_sld hx hb hX hbl hbA hS (by rw [hL6]; unfold vp_in; decide) dL_law_776 ?_
  refine W.eq (g2 := F0 m 777 ls [.int (xs 1), .ref (q 0)]) rfl ?_
  have hPc := hP.sub (ws' := [((q 0), .inr (11, [.ref (q 1), .ref (q 2), .ref (q 3), .ref (q 4), .ref (q 5), .ref (q 6), .ref (q 7), .ref (q 8), .ref (q 9), .ref (q 10), .ref (q 11), .ref (q 12), .ref (q 13), .ref (q 14), .ref (q 15)])), ((q 2), .inr (10, [.ref (q 25), .ref (q 26), .ref (q 27), .ref (q 28), .ref (q 29), .ref (q 30), .ref (q 31), .int 0, .int 0, .int 0, .int 0, .int 0, .int 0, .int 0, .int 0, .int 0]))]) [0, 11] rfl
  have hKc := hK.sub (tys' := []) [] rfl
  refine vp_callSi (va_Run.run (va_runV (As := [.int (xs 1)]) (rest := []) ⟨hx, hb, hml, hown, hts⟩ (f_X11_all l dC dI ((q 0)) ((q 1)) ((q 2)) ((q 3)) ((q 4)) ((q 5)) ((q 6)) ((q 7)) ((q 8)) ((q 9)) ((q 10)) ((q 11)) ((q 12)) ((q 13)) ((q 14)) ((q 15)) ((q 25)) ((q 26)) ((q 27)) ((q 28)) ((q 29)) ((q 30)) ((q 31)) ((xs 1))) (cwV 1 hts (gk_V tw_788 tw_789 tw_790 tw_157 wki_f_X11_all wkg_f_X11_all) rfl rfl rfl (by decide +kernel) ⟨Nat.le_of_ble_eq_true rfl, Nat.le_of_ble_eq_true rfl⟩) ⟨fun a U g mk q => by obtain ⟨q0, qP, qK⟩ := q; exact ⟨q0, qP, va_K.moved (u := U) (U := U.calling g mk a) (Vm.Alike.refl U.vm) qK⟩, va_recv hKc hPc (ci := 11) (q0 := 0) rfl rfl, fun U hU hW => ⟨rfl, by rw [hU]; exact hPc, va_K.moved hW.alike hKc⟩⟩ rfl rfl hl.1 rfl (lv_room (Nat.le_of_ble_eq_true rfl)) dL_law_777 ⟨Nat.le_of_ble_eq_true rfl, Nat.le_of_ble_eq_true rfl⟩)) (fun oz3 gz2 => ?_)
  obtain rfl := gz2
  refine lv_aload_n hx hb dL_law_780 rfl (lv_at hl 2 rfl) ?_
  refine lv_aload_n hx hb dL_law_781 rfl (lv_at hl 0 rfl) ?_
  refine lv_iload_n hx hb dL_law_782 rfl (lv_at hl 3 rfl) ?_
  refine lv_iconst (v := 1) hx hb dL_law_783 (by decide) ?_
  refine lv_iadd hx hb dL_law_784 ?_
  refine lv_topi (fun xz4 exz4 => ?_)
  obtain rfl : xz4 = 1 := exz4.trans (by decide)
  refine va_sld hx hb hX hbl hbA hS (by rw [hL6]; unfold vp_in; decide) dL_law_785 ?_
  refine W.eq (g2 := F0 m 786 ls [.int (xs 1), .ref (r 0), .int (-2)]) rfl ?_
  have hPc := hP.sub (ws' := [((r 0), .inr (12, [.int 0, .ref (r 1), .ref (r 2), .ref (r 3), .ref (r 4), .ref (r 5), .int 0, .int 0, .int 0, .int 0, .int 0, .long 0, .int 0, .int 0, .int 0, .int (-1), .ref (r 6), .ref (r 7), .ref (r 8), .ref (r 9), .ref (r 10), .ref (r 11), .ref (r 12), .ref (r 13), .int 0, .int 0, .int 0, .ref (r 14), .ref (r 15), .ref (r 16), .ref (r 17), .ref (r 18), .ref (r 19), .ref (r 20), .ref (r 21), .ref (r 22), .ref (r 23), .ref (r 24), .ref (r 25), .ref (r 26), .ref (r 27), .ref (r 28), .ref (r 29), .int 0, .int 0, .int 0, .ref (r 30), .int 0, .int 0, .int 0, .int 0, .int 0, .int 0, .ref (r 31), .int 0, .int 0, .int 0, .ref (r 32), .ref (r 33)])), ((r 6), .inl ((j 4), 5, .inl (fun _ => 0))), ((r 7), .inl ((j 5), 40, .inl (fun _ => 0)))]) [78, 83, 84] rfl
  have hKc := hK.sub (tys' := [((j 4), .int), ((j 5), .int)]) [60, 61] rfl
  have hDc := hD.sub (ws' := [((r 0), .inr (12, [.int 0, .ref (r 1), .ref (r 2), .ref (r 3), .ref (r 4), .ref (r 5), .int 0, .int 0, .int 0, .int 0, .int 0, .long 0, .int 0, .int 0, .int 0, .int (-1), .ref (r 6), .ref (r 7), .ref (r 8), .ref (r 9), .ref (r 10), .ref (r 11), .ref (r 12), .ref (r 13), .int 0, .int 0, .int 0, .ref (r 14), .ref (r 15), .ref (r 16), .ref (r 17), .ref (r 18), .ref (r 19), .ref (r 20), .ref (r 21), .ref (r 22), .ref (r 23), .ref (r 24), .ref (r 25), .ref (r 26), .ref (r 27), .ref (r 28), .ref (r 29), .int 0, .int 0, .int 0, .ref (r 30), .int 0, .int 0, .int 0, .int 0, .int 0, .int 0, .ref (r 31), .int 0, .int 0, .int 0, .ref (r 32), .ref (r 33)])), ((r 6), .inl ((j 4), 5, .inl (fun _ => 0))), ((r 7), .inl ((j 5), 40, .inl (fun _ => 0)))]) [78, 83, 84] (by decide) rfl
  have hFc := va_free (wc := [((r 0), .inr (12, [.int 0, .ref (r 1), .ref (r 2), .ref (r 3), .ref (r 4), .ref (r 5), .int 0, .int 0, .int 0, .int 0, .int 0, .long 0, .int 0, .int 0, .int 0, .int (-1), .ref (r 6), .ref (r 7), .ref (r 8), .ref (r 9), .ref (r 10), .ref (r 11), .ref (r 12), .ref (r 13), .int 0, .int 0, .int 0, .ref (r 14), .ref (r 15), .ref (r 16), .ref (r 17), .ref (r 18), .ref (r 19), .ref (r 20), .ref (r 21), .ref (r 22), .ref (r 23), .ref (r 24), .ref (r 25), .ref (r 26), .ref (r 27), .ref (r 28), .ref (r 29), .int 0, .int 0, .int 0, .ref (r 30), .int 0, .int 0, .int 0, .int 0, .int 0, .int 0, .ref (r 31), .int 0, .int 0, .int 0, .ref (r 32), .ref (r 33)])), ((r 6), .inl ((j 4), 5, .inl (fun _ => 0))), ((r 7), .inl ((j 5), 40, .inl (fun _ => 0)))]) hD hS hA [78, 83, 84] rfl
  refine va_calli (va_runV (As := [.int (xs 1)]) (rest := [.int (-2)]) ⟨hx, hb, hml, hown, hts⟩ (f_X12_all l dC dI H.size ((r 0)) ((r 1)) ((r 2)) ((r 3)) ((r 4)) ((r 5)) ((r 6)) ((r 7)) ((r 8)) ((r 9)) ((r 10)) ((r 11)) ((r 12)) ((r 13)) ((r 14)) ((r 15)) ((r 16)) ((r 17)) ((r 18)) ((r 19)) ((r 20)) ((r 21)) ((r 22)) ((r 23)) ((r 24)) ((r 25)) ((r 26)) ((r 27)) ((r 28)) ((r 29)) ((r 30)) ((r 31)) ((r 32)) ((r 33)) ((j 4)) ((j 5)) ((xs 1))) (cwV 1 hts (gk_V tw_791 tw_792 tw_793 tw_505 wki_f_X12_all wkg_f_X12_all) rfl rfl rfl (by decide +kernel) ⟨Nat.le_of_ble_eq_true rfl, Nat.le_of_ble_eq_true rfl⟩) ⟨fun a U g mk q => by obtain ⟨q0, q1, qP, qK, qD⟩ := q; exact ⟨q0, q1, qP, va_K.moved (u := U) (U := U.calling g mk a) (Vm.Alike.refl U.vm) qK, qD⟩, va_recv hKc hPc (ci := 12) (q0 := 0) rfl rfl, fun U hU hW => ⟨rfl, by rw [hU], by rw [hU]; exact hPc, va_K.moved hW.alike hKc, hDc.weaken (fun _ _ _ _ => trivial)⟩⟩ rfl rfl hl.1 rfl (lv_room (Nat.le_of_ble_eq_true rfl)) dL_law_786 ⟨Nat.le_of_ble_eq_true rfl, Nat.le_of_ble_eq_true rfl⟩) hS (fun q _ h => hFc q h) hFc (fun oz6 u t H1 locs ht hvm gz5 hB hz1 hk1 hS => ?_)
  generalize H1 = H at hS ⊢
  refine W.widen (k := 305) (n := 4995) (Nat.le_of_ble_eq_true rfl) (Nat.le_of_ble_eq_true rfl) ?_
  obtain rfl := gz5
  refine lv_icmp_eq (tgt := 2293) hx hb dL_law_789 (by decide) (fun cz7 => ?_) (fun cz7 => ?_)
  · skip
    exact law_end (dC := dC) (dI := dI) (Nat.le_of_eq hL6) C0 A hAe (q 0) (r 0) H locs hS ls hl
  · skip
    exact absurd cz7 (by decide)
set_option maxHeartbeats 4000000 in
set_option maxRecDepth 100000 in
theorem law_case_16 {p : Program} {l : Launch} {e : Env} {s : State} {m : MethodId} {below : List Frame} {meth : Method} {c : Code} {dC : Nat → ClassId} {dI : Nat → Nat → Nat} {b L : Nat} {xs : Nat → Int32} (hL6 : L = 6) (C0 : lw_At p s m meth c b L xs) (A : Nat → Prop) (hAe : A = fun q => s.heap.size ≤ q) (q r : Nat → Nat) (k j : Nat → ClassId) (H : Heap) (locs : List Loc) (hK : va_K (dC, dI) vwCl (tX k ++ tM j) s) (hP : va_P (dC, dI) vwCl (wX q k ++ wM r j) H) (hD : va_D A (wX q k ++ wM r j)) (hS : va_S A s.heap H locs) (ls : Array Slot) (hl : lv_has ls 4 [(0, .ref b), (1, .ref (q 0)), (2, .ref (r 0)), (3, .int 0)]) : W p l e room_1 s m #[Value.ref b] below meth c H locs 305 4995 (lw_Z below #[Value.ref b] s) (F0 m 794 ls []) := by
  obtain ⟨hx, hb, hr, hml, hown, hts, hX, hbl, hlocks, hgv⟩ := id C0
  have hown : s.vm.findClass RL = some m.cls := hown
  have hA : ∀ q : Nat, s.heap.size ≤ q → A q := by rw [hAe]; exact fun _ h => h
  have hbA : ¬ A b := by rw [hAe]; exact Nat.not_le.mpr hbl
  refine lv_aload_n hx hb dL_law_794 rfl (lv_at hl 1 rfl) ?_
  refine lv_aload_n hx hb dL_law_795 rfl (lv_at hl 0 rfl) ?_
  refine lv_iload_n hx hb dL_law_796 rfl (lv_at hl 3 rfl) ?_
  refine lv_iconst (v := 1) hx hb dL_law_797 (by decide) ?_
  refine lv_iadd hx hb dL_law_798 ?_
  refine lv_topi (fun xz1 exz1 => ?_)
  obtain rfl : xz1 = 1 := exz1.trans (by decide)
  refine va_sld hx hb hX hbl hbA hS (by rw [hL6]; unfold vp_in; decide) dL_law_799 ?_
  refine W.eq (g2 := F0 m 800 ls [.int (xs 1), .ref (q 0)]) rfl ?_
  have hPc := hP.sub (ws' := [((q 0), .inr (11, [.ref (q 1), .ref (q 2), .ref (q 3), .ref (q 4), .ref (q 5), .ref (q 6), .ref (q 7), .ref (q 8), .ref (q 9), .ref (q 10), .ref (q 11), .ref (q 12), .ref (q 13), .ref (q 14), .ref (q 15)])), ((q 2), .inr (10, [.ref (q 25), .ref (q 26), .ref (q 27), .ref (q 28), .ref (q 29), .ref (q 30), .ref (q 31), .int 0, .int 0, .int 0, .int 0, .int 0, .int 0, .int 0, .int 0, .int 0]))]) [0, 11] rfl
  have hKc := hK.sub (tys' := []) [] rfl
  refine vp_callSi (va_Run.run (va_runV (As := [.int (xs 1)]) (rest := []) ⟨hx, hb, hml, hown, hts⟩ (f_X11_deepest l dC dI ((q 0)) ((q 1)) ((q 2)) ((q 3)) ((q 4)) ((q 5)) ((q 6)) ((q 7)) ((q 8)) ((q 9)) ((q 10)) ((q 11)) ((q 12)) ((q 13)) ((q 14)) ((q 15)) ((q 25)) ((q 26)) ((q 27)) ((q 28)) ((q 29)) ((q 30)) ((q 31)) ((xs 1))) (cwV 1 hts (gk_V tw_794 tw_795 tw_796 tw_157 wki_f_X11_deepest wkg_f_X11_deepest) rfl rfl rfl (by decide +kernel) ⟨Nat.le_of_ble_eq_true rfl, Nat.le_of_ble_eq_true rfl⟩) ⟨fun a U g mk q => by obtain ⟨q0, qP, qK⟩ := q; exact ⟨q0, qP, va_K.moved (u := U) (U := U.calling g mk a) (Vm.Alike.refl U.vm) qK⟩, va_recv hKc hPc (ci := 11) (q0 := 0) rfl rfl, fun U hU hW => ⟨rfl, by rw [hU]; exact hPc, va_K.moved hW.alike hKc⟩⟩ rfl rfl hl.1 rfl (lv_room (Nat.le_of_ble_eq_true rfl)) dL_law_800 ⟨Nat.le_of_ble_eq_true rfl, Nat.le_of_ble_eq_true rfl⟩)) (fun oz3 gz2 => ?_)
  obtain rfl := gz2
  refine lv_aload_n hx hb dL_law_803 rfl (lv_at hl 2 rfl) ?_
  refine lv_aload_n hx hb dL_law_804 rfl (lv_at hl 0 rfl) ?_
  refine lv_iload_n hx hb dL_law_805 rfl (lv_at hl 3 rfl) ?_
  refine lv_iconst (v := 1) hx hb dL_law_806 (by decide) ?_
  refine lv_iadd hx hb dL_law_807 ?_
  refine lv_topi (fun xz4 exz4 => ?_)
  obtain rfl : xz4 = 1 := exz4.trans (by decide)
  refine va_sld hx hb hX hbl hbA hS (by rw [hL6]; unfold vp_in; decide) dL_law_808 ?_
  refine W.eq (g2 := F0 m 809 ls [.int (xs 1), .ref (r 0), .int (-2)]) rfl ?_
  have hPc := hP.sub (ws' := [((r 0), .inr (12, [.int 0, .ref (r 1), .ref (r 2), .ref (r 3), .ref (r 4), .ref (r 5), .int 0, .int 0, .int 0, .int 0, .int 0, .long 0, .int 0, .int 0, .int 0, .int (-1), .ref (r 6), .ref (r 7), .ref (r 8), .ref (r 9), .ref (r 10), .ref (r 11), .ref (r 12), .ref (r 13), .int 0, .int 0, .int 0, .ref (r 14), .ref (r 15), .ref (r 16), .ref (r 17), .ref (r 18), .ref (r 19), .ref (r 20), .ref (r 21), .ref (r 22), .ref (r 23), .ref (r 24), .ref (r 25), .ref (r 26), .ref (r 27), .ref (r 28), .ref (r 29), .int 0, .int 0, .int 0, .ref (r 30), .int 0, .int 0, .int 0, .int 0, .int 0, .int 0, .ref (r 31), .int 0, .int 0, .int 0, .ref (r 32), .ref (r 33)])), ((r 6), .inl ((j 4), 5, .inl (fun _ => 0))), ((r 7), .inl ((j 5), 40, .inl (fun _ => 0)))]) [78, 83, 84] rfl
  have hKc := hK.sub (tys' := [((j 4), .int), ((j 5), .int)]) [60, 61] rfl
  have hDc := hD.sub (ws' := [((r 0), .inr (12, [.int 0, .ref (r 1), .ref (r 2), .ref (r 3), .ref (r 4), .ref (r 5), .int 0, .int 0, .int 0, .int 0, .int 0, .long 0, .int 0, .int 0, .int 0, .int (-1), .ref (r 6), .ref (r 7), .ref (r 8), .ref (r 9), .ref (r 10), .ref (r 11), .ref (r 12), .ref (r 13), .int 0, .int 0, .int 0, .ref (r 14), .ref (r 15), .ref (r 16), .ref (r 17), .ref (r 18), .ref (r 19), .ref (r 20), .ref (r 21), .ref (r 22), .ref (r 23), .ref (r 24), .ref (r 25), .ref (r 26), .ref (r 27), .ref (r 28), .ref (r 29), .int 0, .int 0, .int 0, .ref (r 30), .int 0, .int 0, .int 0, .int 0, .int 0, .int 0, .ref (r 31), .int 0, .int 0, .int 0, .ref (r 32), .ref (r 33)])), ((r 6), .inl ((j 4), 5, .inl (fun _ => 0))), ((r 7), .inl ((j 5), 40, .inl (fun _ => 0)))]) [78, 83, 84] (by decide) rfl
  have hFc := va_free (wc := [((r 0), .inr (12, [.int 0, .ref (r 1), .ref (r 2), .ref (r 3), .ref (r 4), .ref (r 5), .int 0, .int 0, .int 0, .int 0, .int 0, .long 0, .int 0, .int 0, .int 0, .int (-1), .ref (r 6), .ref (r 7), .ref (r 8), .ref (r 9), .ref (r 10), .ref (r 11), .ref (r 12), .ref (r 13), .int 0, .int 0, .int 0, .ref (r 14), .ref (r 15), .ref (r 16), .ref (r 17), .ref (r 18), .ref (r 19), .ref (r 20), .ref (r 21), .ref (r 22), .ref (r 23), .ref (r 24), .ref (r 25), .ref (r 26), .ref (r 27), .ref (r 28), .ref (r 29), .int 0, .int 0, .int 0, .ref (r 30), .int 0, .int 0, .int 0, .int 0, .int 0, .int 0, .ref (r 31), .int 0, .int 0, .int 0, .ref (r 32), .ref (r 33)])), ((r 6), .inl ((j 4), 5, .inl (fun _ => 0))), ((r 7), .inl ((j 5), 40, .inl (fun _ => 0)))]) hD hS hA [78, 83, 84] rfl
  refine va_calli (va_runV (As := [.int (xs 1)]) (rest := [.int (-2)]) ⟨hx, hb, hml, hown, hts⟩ (f_X12_deepest l dC dI H.size ((r 0)) ((r 1)) ((r 2)) ((r 3)) ((r 4)) ((r 5)) ((r 6)) ((r 7)) ((r 8)) ((r 9)) ((r 10)) ((r 11)) ((r 12)) ((r 13)) ((r 14)) ((r 15)) ((r 16)) ((r 17)) ((r 18)) ((r 19)) ((r 20)) ((r 21)) ((r 22)) ((r 23)) ((r 24)) ((r 25)) ((r 26)) ((r 27)) ((r 28)) ((r 29)) ((r 30)) ((r 31)) ((r 32)) ((r 33)) ((j 4)) ((j 5)) ((xs 1))) (cwV 1 hts (gk_V tw_797 tw_798 tw_799 tw_505 wki_f_X12_deepest wkg_f_X12_deepest) rfl rfl rfl (by decide +kernel) ⟨Nat.le_of_ble_eq_true rfl, Nat.le_of_ble_eq_true rfl⟩) ⟨fun a U g mk q => by obtain ⟨q0, q1, qP, qK, qD⟩ := q; exact ⟨q0, q1, qP, va_K.moved (u := U) (U := U.calling g mk a) (Vm.Alike.refl U.vm) qK, qD⟩, va_recv hKc hPc (ci := 12) (q0 := 0) rfl rfl, fun U hU hW => ⟨rfl, by rw [hU], by rw [hU]; exact hPc, va_K.moved hW.alike hKc, hDc.weaken (fun _ _ _ _ => trivial)⟩⟩ rfl rfl hl.1 rfl (lv_room (Nat.le_of_ble_eq_true rfl)) dL_law_809 ⟨Nat.le_of_ble_eq_true rfl, Nat.le_of_ble_eq_true rfl⟩) hS (fun q _ h => hFc q h) hFc (fun oz6 u t H1 locs ht hvm gz5 hB hz1 hk1 hS => ?_)
  generalize H1 = H at hS ⊢
  refine W.widen (k := 305) (n := 4995) (Nat.le_of_ble_eq_true rfl) (Nat.le_of_ble_eq_true rfl) ?_
  obtain rfl := gz5
  refine lv_icmp_eq (tgt := 2293) hx hb dL_law_812 (by decide) (fun cz7 => ?_) (fun cz7 => ?_)
  · skip
    exact law_end (dC := dC) (dI := dI) (Nat.le_of_eq hL6) C0 A hAe (q 0) (r 0) H locs hS ls hl
  · skip
    exact absurd cz7 (by decide)
set_option maxHeartbeats 4000000 in
set_option maxRecDepth 100000 in
theorem law_case_17 {p : Program} {l : Launch} {e : Env} {s : State} {m : MethodId} {below : List Frame} {meth : Method} {c : Code} {dC : Nat → ClassId} {dI : Nat → Nat → Nat} {b L : Nat} {xs : Nat → Int32} (hL6 : L = 6) (C0 : lw_At p s m meth c b L xs) (A : Nat → Prop) (hAe : A = fun q => s.heap.size ≤ q) (q r : Nat → Nat) (k j : Nat → ClassId) (H : Heap) (locs : List Loc) (hK : va_K (dC, dI) vwCl (tX k ++ tM j) s) (hP : va_P (dC, dI) vwCl (wX q k ++ wM r j) H) (hD : va_D A (wX q k ++ wM r j)) (hS : va_S A s.heap H locs) (ls : Array Slot) (hl : lv_has ls 4 [(0, .ref b), (1, .ref (q 0)), (2, .ref (r 0)), (3, .int 0)]) : W p l e room_1 s m #[Value.ref b] below meth c H locs 305 4995 (lw_Z below #[Value.ref b] s) (F0 m 817 ls []) := by
  obtain ⟨hx, hb, hr, hml, hown, hts, hX, hbl, hlocks, hgv⟩ := id C0
  have hown : s.vm.findClass RL = some m.cls := hown
  have hA : ∀ q : Nat, s.heap.size ≤ q → A q := by rw [hAe]; exact fun _ h => h
  have hbA : ¬ A b := by rw [hAe]; exact Nat.not_le.mpr hbl
  refine lv_aload_n hx hb dL_law_817 rfl (lv_at hl 1 rfl) ?_
  refine lv_aload_n hx hb dL_law_818 rfl (lv_at hl 0 rfl) ?_
  refine lv_iload_n hx hb dL_law_819 rfl (lv_at hl 3 rfl) ?_
  refine lv_iconst (v := 1) hx hb dL_law_820 (by decide) ?_
  refine lv_iadd hx hb dL_law_821 ?_
  refine lv_topi (fun xz1 exz1 => ?_)
  obtain rfl : xz1 = 1 := exz1.trans (by decide)
  refine va_sld hx hb hX hbl hbA hS (by rw [hL6]; unfold vp_in; decide) dL_law_822 ?_
  refine W.eq (g2 := F0 m 823 ls [.int (xs 1), .ref (q 0)]) rfl ?_
  have hPc := hP.sub (ws' := [((q 0), .inr (11, [.ref (q 1), .ref (q 2), .ref (q 3), .ref (q 4), .ref (q 5), .ref (q 6), .ref (q 7), .ref (q 8), .ref (q 9), .ref (q 10), .ref (q 11), .ref (q 12), .ref (q 13), .ref (q 14), .ref (q 15)])), ((q 2), .inr (10, [.ref (q 25), .ref (q 26), .ref (q 27), .ref (q 28), .ref (q 29), .ref (q 30), .ref (q 31), .int 0, .int 0, .int 0, .int 0, .int 0, .int 0, .int 0, .int 0, .int 0]))]) [0, 11] rfl
  have hKc := hK.sub (tys' := []) [] rfl
  refine vp_callSi (va_Run.run (va_runV (As := [.int (xs 1)]) (rest := []) ⟨hx, hb, hml, hown, hts⟩ (f_X11_gives l dC dI ((q 0)) ((q 1)) ((q 2)) ((q 3)) ((q 4)) ((q 5)) ((q 6)) ((q 7)) ((q 8)) ((q 9)) ((q 10)) ((q 11)) ((q 12)) ((q 13)) ((q 14)) ((q 15)) ((q 25)) ((q 26)) ((q 27)) ((q 28)) ((q 29)) ((q 30)) ((q 31)) ((xs 1))) (cwV 1 hts (gk_V tw_800 tw_801 tw_802 tw_157 wki_f_X11_gives wkg_f_X11_gives) rfl rfl rfl (by decide +kernel) ⟨Nat.le_of_ble_eq_true rfl, Nat.le_of_ble_eq_true rfl⟩) ⟨fun a U g mk q => by obtain ⟨q0, qP, qK⟩ := q; exact ⟨q0, qP, va_K.moved (u := U) (U := U.calling g mk a) (Vm.Alike.refl U.vm) qK⟩, va_recv hKc hPc (ci := 11) (q0 := 0) rfl rfl, fun U hU hW => ⟨rfl, by rw [hU]; exact hPc, va_K.moved hW.alike hKc⟩⟩ rfl rfl hl.1 rfl (lv_room (Nat.le_of_ble_eq_true rfl)) dL_law_823 ⟨Nat.le_of_ble_eq_true rfl, Nat.le_of_ble_eq_true rfl⟩)) (fun oz3 gz2 => ?_)
  obtain rfl := gz2
  refine lv_aload_n hx hb dL_law_826 rfl (lv_at hl 2 rfl) ?_
  refine lv_aload_n hx hb dL_law_827 rfl (lv_at hl 0 rfl) ?_
  refine lv_iload_n hx hb dL_law_828 rfl (lv_at hl 3 rfl) ?_
  refine lv_iconst (v := 1) hx hb dL_law_829 (by decide) ?_
  refine lv_iadd hx hb dL_law_830 ?_
  refine lv_topi (fun xz4 exz4 => ?_)
  obtain rfl : xz4 = 1 := exz4.trans (by decide)
  refine va_sld hx hb hX hbl hbA hS (by rw [hL6]; unfold vp_in; decide) dL_law_831 ?_
  refine W.eq (g2 := F0 m 832 ls [.int (xs 1), .ref (r 0), .int (-1000)]) rfl ?_
  have hPc := hP.sub (ws' := [((r 0), .inr (12, [.int 0, .ref (r 1), .ref (r 2), .ref (r 3), .ref (r 4), .ref (r 5), .int 0, .int 0, .int 0, .int 0, .int 0, .long 0, .int 0, .int 0, .int 0, .int (-1), .ref (r 6), .ref (r 7), .ref (r 8), .ref (r 9), .ref (r 10), .ref (r 11), .ref (r 12), .ref (r 13), .int 0, .int 0, .int 0, .ref (r 14), .ref (r 15), .ref (r 16), .ref (r 17), .ref (r 18), .ref (r 19), .ref (r 20), .ref (r 21), .ref (r 22), .ref (r 23), .ref (r 24), .ref (r 25), .ref (r 26), .ref (r 27), .ref (r 28), .ref (r 29), .int 0, .int 0, .int 0, .ref (r 30), .int 0, .int 0, .int 0, .int 0, .int 0, .int 0, .ref (r 31), .int 0, .int 0, .int 0, .ref (r 32), .ref (r 33)])), ((r 6), .inl ((j 4), 5, .inl (fun _ => 0))), ((r 7), .inl ((j 5), 40, .inl (fun _ => 0)))]) [78, 83, 84] rfl
  have hKc := hK.sub (tys' := [((j 4), .int), ((j 5), .int)]) [60, 61] rfl
  have hDc := hD.sub (ws' := [((r 0), .inr (12, [.int 0, .ref (r 1), .ref (r 2), .ref (r 3), .ref (r 4), .ref (r 5), .int 0, .int 0, .int 0, .int 0, .int 0, .long 0, .int 0, .int 0, .int 0, .int (-1), .ref (r 6), .ref (r 7), .ref (r 8), .ref (r 9), .ref (r 10), .ref (r 11), .ref (r 12), .ref (r 13), .int 0, .int 0, .int 0, .ref (r 14), .ref (r 15), .ref (r 16), .ref (r 17), .ref (r 18), .ref (r 19), .ref (r 20), .ref (r 21), .ref (r 22), .ref (r 23), .ref (r 24), .ref (r 25), .ref (r 26), .ref (r 27), .ref (r 28), .ref (r 29), .int 0, .int 0, .int 0, .ref (r 30), .int 0, .int 0, .int 0, .int 0, .int 0, .int 0, .ref (r 31), .int 0, .int 0, .int 0, .ref (r 32), .ref (r 33)])), ((r 6), .inl ((j 4), 5, .inl (fun _ => 0))), ((r 7), .inl ((j 5), 40, .inl (fun _ => 0)))]) [78, 83, 84] (by decide) rfl
  have hFc := va_free (wc := [((r 0), .inr (12, [.int 0, .ref (r 1), .ref (r 2), .ref (r 3), .ref (r 4), .ref (r 5), .int 0, .int 0, .int 0, .int 0, .int 0, .long 0, .int 0, .int 0, .int 0, .int (-1), .ref (r 6), .ref (r 7), .ref (r 8), .ref (r 9), .ref (r 10), .ref (r 11), .ref (r 12), .ref (r 13), .int 0, .int 0, .int 0, .ref (r 14), .ref (r 15), .ref (r 16), .ref (r 17), .ref (r 18), .ref (r 19), .ref (r 20), .ref (r 21), .ref (r 22), .ref (r 23), .ref (r 24), .ref (r 25), .ref (r 26), .ref (r 27), .ref (r 28), .ref (r 29), .int 0, .int 0, .int 0, .ref (r 30), .int 0, .int 0, .int 0, .int 0, .int 0, .int 0, .ref (r 31), .int 0, .int 0, .int 0, .ref (r 32), .ref (r 33)])), ((r 6), .inl ((j 4), 5, .inl (fun _ => 0))), ((r 7), .inl ((j 5), 40, .inl (fun _ => 0)))]) hD hS hA [78, 83, 84] rfl
  refine va_calli (va_runV (As := [.int (xs 1)]) (rest := [.int (-1000)]) ⟨hx, hb, hml, hown, hts⟩ (f_X12_gives l dC dI H.size ((r 0)) ((r 1)) ((r 2)) ((r 3)) ((r 4)) ((r 5)) ((r 6)) ((r 7)) ((r 8)) ((r 9)) ((r 10)) ((r 11)) ((r 12)) ((r 13)) ((r 14)) ((r 15)) ((r 16)) ((r 17)) ((r 18)) ((r 19)) ((r 20)) ((r 21)) ((r 22)) ((r 23)) ((r 24)) ((r 25)) ((r 26)) ((r 27)) ((r 28)) ((r 29)) ((r 30)) ((r 31)) ((r 32)) ((r 33)) ((j 4)) ((j 5)) ((xs 1))) (cwV 1 hts (gk_V tw_803 tw_804 tw_805 tw_505 wki_f_X12_gives wkg_f_X12_gives) rfl rfl rfl (by decide +kernel) ⟨Nat.le_of_ble_eq_true rfl, Nat.le_of_ble_eq_true rfl⟩) ⟨fun a U g mk q => by obtain ⟨q0, q1, qP, qK, qD⟩ := q; exact ⟨q0, q1, qP, va_K.moved (u := U) (U := U.calling g mk a) (Vm.Alike.refl U.vm) qK, qD⟩, va_recv hKc hPc (ci := 12) (q0 := 0) rfl rfl, fun U hU hW => ⟨rfl, by rw [hU], by rw [hU]; exact hPc, va_K.moved hW.alike hKc, hDc.weaken (fun _ _ _ _ => trivial)⟩⟩ rfl rfl hl.1 rfl (lv_room (Nat.le_of_ble_eq_true rfl)) dL_law_832 ⟨Nat.le_of_ble_eq_true rfl, Nat.le_of_ble_eq_true rfl⟩) hS (fun q _ h => hFc q h) hFc (fun oz6 u t H1 locs ht hvm gz5 hB hz1 hk1 hS => ?_)
  generalize H1 = H at hS ⊢
  refine W.widen (k := 305) (n := 4995) (Nat.le_of_ble_eq_true rfl) (Nat.le_of_ble_eq_true rfl) ?_
  obtain rfl := gz5
  refine lv_icmp_eq (tgt := 2293) hx hb dL_law_835 (by decide) (fun cz7 => ?_) (fun cz7 => ?_)
  · skip
    exact law_end (dC := dC) (dI := dI) (Nat.le_of_eq hL6) C0 A hAe (q 0) (r 0) H locs hS ls hl
  · skip
    exact absurd cz7 (by decide)
set_option maxHeartbeats 4000000 in
set_option maxRecDepth 100000 in
theorem law_case_18 {p : Program} {l : Launch} {e : Env} {s : State} {m : MethodId} {below : List Frame} {meth : Method} {c : Code} {dC : Nat → ClassId} {dI : Nat → Nat → Nat} {b L : Nat} {xs : Nat → Int32} (hL6 : L = 6) (C0 : lw_At p s m meth c b L xs) (A : Nat → Prop) (hAe : A = fun q => s.heap.size ≤ q) (q r : Nat → Nat) (k j : Nat → ClassId) (H : Heap) (locs : List Loc) (hK : va_K (dC, dI) vwCl (tX k ++ tM j) s) (hP : va_P (dC, dI) vwCl (wX q k ++ wM r j) H) (hD : va_D A (wX q k ++ wM r j)) (hS : va_S A s.heap H locs) (ls : Array Slot) (hl : lv_has ls 4 [(0, .ref b), (1, .ref (q 0)), (2, .ref (r 0)), (3, .int 0)]) : W p l e room_1 s m #[Value.ref b] below meth c H locs 305 4995 (lw_Z below #[Value.ref b] s) (F0 m 840 ls []) := by
  obtain ⟨hx, hb, hr, hml, hown, hts, hX, hbl, hlocks, hgv⟩ := id C0
  have hown : s.vm.findClass RL = some m.cls := hown
  have hA : ∀ q : Nat, s.heap.size ≤ q → A q := by rw [hAe]; exact fun _ h => h
  have hbA : ¬ A b := by rw [hAe]; exact Nat.not_le.mpr hbl
  refine lv_aload_n hx hb dL_law_840 rfl (lv_at hl 1 rfl) ?_
  refine lv_aload_n hx hb dL_law_841 rfl (lv_at hl 0 rfl) ?_
  refine lv_iload_n hx hb dL_law_842 rfl (lv_at hl 3 rfl) ?_
  refine lv_iconst (v := 1) hx hb dL_law_843 (by decide) ?_
  refine lv_iadd hx hb dL_law_844 ?_
  refine lv_topi (fun xz1 exz1 => ?_)
  obtain rfl : xz1 = 1 := exz1.trans (by decide)
  refine va_sld hx hb hX hbl hbA hS (by rw [hL6]; unfold vp_in; decide) dL_law_845 ?_
  refine W.eq (g2 := F0 m 846 ls [.int (xs 1), .ref (q 0)]) rfl ?_
  have hPc := hP.sub (ws' := [((q 0), .inr (11, [.ref (q 1), .ref (q 2), .ref (q 3), .ref (q 4), .ref (q 5), .ref (q 6), .ref (q 7), .ref (q 8), .ref (q 9), .ref (q 10), .ref (q 11), .ref (q 12), .ref (q 13), .ref (q 14), .ref (q 15)])), ((q 2), .inr (10, [.ref (q 25), .ref (q 26), .ref (q 27), .ref (q 28), .ref (q 29), .ref (q 30), .ref (q 31), .int 0, .int 0, .int 0, .int 0, .int 0, .int 0, .int 0, .int 0, .int 0]))]) [0, 11] rfl
  have hKc := hK.sub (tys' := []) [] rfl
  refine vp_callSi (va_Run.run (va_runV (As := [.int (xs 1)]) (rest := []) ⟨hx, hb, hml, hown, hts⟩ (f_X11_creak l dC dI ((q 0)) ((q 1)) ((q 2)) ((q 3)) ((q 4)) ((q 5)) ((q 6)) ((q 7)) ((q 8)) ((q 9)) ((q 10)) ((q 11)) ((q 12)) ((q 13)) ((q 14)) ((q 15)) ((q 25)) ((q 26)) ((q 27)) ((q 28)) ((q 29)) ((q 30)) ((q 31)) ((xs 1))) (cwV 1 hts (gk_V tw_806 tw_807 tw_808 tw_157 wki_f_X11_creak wkg_f_X11_creak) rfl rfl rfl (by decide +kernel) ⟨Nat.le_of_ble_eq_true rfl, Nat.le_of_ble_eq_true rfl⟩) ⟨fun a U g mk q => by obtain ⟨q0, qP, qK⟩ := q; exact ⟨q0, qP, va_K.moved (u := U) (U := U.calling g mk a) (Vm.Alike.refl U.vm) qK⟩, va_recv hKc hPc (ci := 11) (q0 := 0) rfl rfl, fun U hU hW => ⟨rfl, by rw [hU]; exact hPc, va_K.moved hW.alike hKc⟩⟩ rfl rfl hl.1 rfl (lv_room (Nat.le_of_ble_eq_true rfl)) dL_law_846 ⟨Nat.le_of_ble_eq_true rfl, Nat.le_of_ble_eq_true rfl⟩)) (fun oz3 gz2 => ?_)
  obtain rfl := gz2
  refine lv_aload_n hx hb dL_law_849 rfl (lv_at hl 2 rfl) ?_
  refine lv_aload_n hx hb dL_law_850 rfl (lv_at hl 0 rfl) ?_
  refine lv_iload_n hx hb dL_law_851 rfl (lv_at hl 3 rfl) ?_
  refine lv_iconst (v := 1) hx hb dL_law_852 (by decide) ?_
  refine lv_iadd hx hb dL_law_853 ?_
  refine lv_topi (fun xz4 exz4 => ?_)
  obtain rfl : xz4 = 1 := exz4.trans (by decide)
  refine va_sld hx hb hX hbl hbA hS (by rw [hL6]; unfold vp_in; decide) dL_law_854 ?_
  refine W.eq (g2 := F0 m 855 ls [.int (xs 1), .ref (r 0), .int (-2)]) rfl ?_
  have hPc := hP.sub (ws' := [((r 0), .inr (12, [.int 0, .ref (r 1), .ref (r 2), .ref (r 3), .ref (r 4), .ref (r 5), .int 0, .int 0, .int 0, .int 0, .int 0, .long 0, .int 0, .int 0, .int 0, .int (-1), .ref (r 6), .ref (r 7), .ref (r 8), .ref (r 9), .ref (r 10), .ref (r 11), .ref (r 12), .ref (r 13), .int 0, .int 0, .int 0, .ref (r 14), .ref (r 15), .ref (r 16), .ref (r 17), .ref (r 18), .ref (r 19), .ref (r 20), .ref (r 21), .ref (r 22), .ref (r 23), .ref (r 24), .ref (r 25), .ref (r 26), .ref (r 27), .ref (r 28), .ref (r 29), .int 0, .int 0, .int 0, .ref (r 30), .int 0, .int 0, .int 0, .int 0, .int 0, .int 0, .ref (r 31), .int 0, .int 0, .int 0, .ref (r 32), .ref (r 33)])), ((r 6), .inl ((j 4), 5, .inl (fun _ => 0))), ((r 7), .inl ((j 5), 40, .inl (fun _ => 0)))]) [78, 83, 84] rfl
  have hKc := hK.sub (tys' := [((j 4), .int), ((j 5), .int)]) [60, 61] rfl
  have hDc := hD.sub (ws' := [((r 0), .inr (12, [.int 0, .ref (r 1), .ref (r 2), .ref (r 3), .ref (r 4), .ref (r 5), .int 0, .int 0, .int 0, .int 0, .int 0, .long 0, .int 0, .int 0, .int 0, .int (-1), .ref (r 6), .ref (r 7), .ref (r 8), .ref (r 9), .ref (r 10), .ref (r 11), .ref (r 12), .ref (r 13), .int 0, .int 0, .int 0, .ref (r 14), .ref (r 15), .ref (r 16), .ref (r 17), .ref (r 18), .ref (r 19), .ref (r 20), .ref (r 21), .ref (r 22), .ref (r 23), .ref (r 24), .ref (r 25), .ref (r 26), .ref (r 27), .ref (r 28), .ref (r 29), .int 0, .int 0, .int 0, .ref (r 30), .int 0, .int 0, .int 0, .int 0, .int 0, .int 0, .ref (r 31), .int 0, .int 0, .int 0, .ref (r 32), .ref (r 33)])), ((r 6), .inl ((j 4), 5, .inl (fun _ => 0))), ((r 7), .inl ((j 5), 40, .inl (fun _ => 0)))]) [78, 83, 84] (by decide) rfl
  have hFc := va_free (wc := [((r 0), .inr (12, [.int 0, .ref (r 1), .ref (r 2), .ref (r 3), .ref (r 4), .ref (r 5), .int 0, .int 0, .int 0, .int 0, .int 0, .long 0, .int 0, .int 0, .int 0, .int (-1), .ref (r 6), .ref (r 7), .ref (r 8), .ref (r 9), .ref (r 10), .ref (r 11), .ref (r 12), .ref (r 13), .int 0, .int 0, .int 0, .ref (r 14), .ref (r 15), .ref (r 16), .ref (r 17), .ref (r 18), .ref (r 19), .ref (r 20), .ref (r 21), .ref (r 22), .ref (r 23), .ref (r 24), .ref (r 25), .ref (r 26), .ref (r 27), .ref (r 28), .ref (r 29), .int 0, .int 0, .int 0, .ref (r 30), .int 0, .int 0, .int 0, .int 0, .int 0, .int 0, .ref (r 31), .int 0, .int 0, .int 0, .ref (r 32), .ref (r 33)])), ((r 6), .inl ((j 4), 5, .inl (fun _ => 0))), ((r 7), .inl ((j 5), 40, .inl (fun _ => 0)))]) hD hS hA [78, 83, 84] rfl
  refine va_calli (va_runV (As := [.int (xs 1)]) (rest := [.int (-2)]) ⟨hx, hb, hml, hown, hts⟩ (f_X12_creak l dC dI H.size ((r 0)) ((r 1)) ((r 2)) ((r 3)) ((r 4)) ((r 5)) ((r 6)) ((r 7)) ((r 8)) ((r 9)) ((r 10)) ((r 11)) ((r 12)) ((r 13)) ((r 14)) ((r 15)) ((r 16)) ((r 17)) ((r 18)) ((r 19)) ((r 20)) ((r 21)) ((r 22)) ((r 23)) ((r 24)) ((r 25)) ((r 26)) ((r 27)) ((r 28)) ((r 29)) ((r 30)) ((r 31)) ((r 32)) ((r 33)) ((j 4)) ((j 5)) ((xs 1))) (cwV 1 hts (gk_V tw_809 tw_810 tw_811 tw_505 wki_f_X12_creak wkg_f_X12_creak) rfl rfl rfl (by decide +kernel) ⟨Nat.le_of_ble_eq_true rfl, Nat.le_of_ble_eq_true rfl⟩) ⟨fun a U g mk q => by obtain ⟨q0, q1, qP, qK, qD⟩ := q; exact ⟨q0, q1, qP, va_K.moved (u := U) (U := U.calling g mk a) (Vm.Alike.refl U.vm) qK, qD⟩, va_recv hKc hPc (ci := 12) (q0 := 0) rfl rfl, fun U hU hW => ⟨rfl, by rw [hU], by rw [hU]; exact hPc, va_K.moved hW.alike hKc, hDc.weaken (fun _ _ _ _ => trivial)⟩⟩ rfl rfl hl.1 rfl (lv_room (Nat.le_of_ble_eq_true rfl)) dL_law_855 ⟨Nat.le_of_ble_eq_true rfl, Nat.le_of_ble_eq_true rfl⟩) hS (fun q _ h => hFc q h) hFc (fun oz6 u t H1 locs ht hvm gz5 hB hz1 hk1 hS => ?_)
  generalize H1 = H at hS ⊢
  refine W.widen (k := 305) (n := 4995) (Nat.le_of_ble_eq_true rfl) (Nat.le_of_ble_eq_true rfl) ?_
  obtain rfl := gz5
  refine lv_icmp_eq (tgt := 2293) hx hb dL_law_858 (by decide) (fun cz7 => ?_) (fun cz7 => ?_)
  · skip
    exact law_end (dC := dC) (dI := dI) (Nat.le_of_eq hL6) C0 A hAe (q 0) (r 0) H locs hS ls hl
  · skip
    exact absurd cz7 (by decide)
set_option maxHeartbeats 4000000 in
set_option maxRecDepth 100000 in
theorem law_case_19 {p : Program} {l : Launch} {e : Env} {s : State} {m : MethodId} {below : List Frame} {meth : Method} {c : Code} {dC : Nat → ClassId} {dI : Nat → Nat → Nat} {b L : Nat} {xs : Nat → Int32} (hL6 : L = 6) (C0 : lw_At p s m meth c b L xs) (A : Nat → Prop) (hAe : A = fun q => s.heap.size ≤ q) (q r : Nat → Nat) (k j : Nat → ClassId) (H : Heap) (locs : List Loc) (hK : va_K (dC, dI) vwCl (tX k ++ tM j) s) (hP : va_P (dC, dI) vwCl (wX q k ++ wM r j) H) (hD : va_D A (wX q k ++ wM r j)) (hS : va_S A s.heap H locs) (ls : Array Slot) (hl : lv_has ls 4 [(0, .ref b), (1, .ref (q 0)), (2, .ref (r 0)), (3, .int 0)]) : W p l e room_1 s m #[Value.ref b] below meth c H locs 305 4995 (lw_Z below #[Value.ref b] s) (F0 m 863 ls []) := by
  obtain ⟨hx, hb, hr, hml, hown, hts, hX, hbl, hlocks, hgv⟩ := id C0
  have hown : s.vm.findClass RL = some m.cls := hown
  have hA : ∀ q : Nat, s.heap.size ≤ q → A q := by rw [hAe]; exact fun _ h => h
  have hbA : ¬ A b := by rw [hAe]; exact Nat.not_le.mpr hbl
  refine lv_aload_n hx hb dL_law_863 rfl (lv_at hl 1 rfl) ?_
  have hPc := hP.sub (ws' := [((q 0), .inr (11, [.ref (q 1), .ref (q 2), .ref (q 3), .ref (q 4), .ref (q 5), .ref (q 6), .ref (q 7), .ref (q 8), .ref (q 9), .ref (q 10), .ref (q 11), .ref (q 12), .ref (q 13), .ref (q 14), .ref (q 15)])), ((q 2), .inr (10, [.ref (q 25), .ref (q 26), .ref (q 27), .ref (q 28), .ref (q 29), .ref (q 30), .ref (q 31), .int 0, .int 0, .int 0, .int 0, .int 0, .int 0, .int 0, .int 0, .int 0]))]) [0, 11] rfl
  have hKc := hK.sub (tys' := []) [] rfl
  refine vp_callSi (va_Run.run (va_runV (As := []) (rest := []) ⟨hx, hb, hml, hown, hts⟩ (f_X11_loudest l dC dI ((q 0)) ((q 1)) ((q 2)) ((q 3)) ((q 4)) ((q 5)) ((q 6)) ((q 7)) ((q 8)) ((q 9)) ((q 10)) ((q 11)) ((q 12)) ((q 13)) ((q 14)) ((q 15)) ((q 25)) ((q 26)) ((q 27)) ((q 28)) ((q 29)) ((q 30)) ((q 31))) (cwV 0 hts (gk_V tw_812 tw_813 tw_814 tw_157 wki_f_X11_loudest wkg_f_X11_loudest) rfl rfl rfl (by decide +kernel) ⟨Nat.le_of_ble_eq_true rfl, Nat.le_of_ble_eq_true rfl⟩) ⟨fun a U g mk q => by obtain ⟨q0, qP, qK⟩ := q; exact ⟨q0, qP, va_K.moved (u := U) (U := U.calling g mk a) (Vm.Alike.refl U.vm) qK⟩, va_recv hKc hPc (ci := 11) (q0 := 0) rfl rfl, fun U hU hW => ⟨rfl, by rw [hU]; exact hPc, va_K.moved hW.alike hKc⟩⟩ rfl rfl hl.1 rfl (lv_room (Nat.le_of_ble_eq_true rfl)) dL_law_864 ⟨Nat.le_of_ble_eq_true rfl, Nat.le_of_ble_eq_true rfl⟩)) (fun oz2 gz1 => ?_)
  obtain rfl := gz1
  refine lv_aload_n hx hb dL_law_867 rfl (lv_at hl 2 rfl) ?_
  have hPc := hP.sub (ws' := [((r 0), .inr (12, [.int 0, .ref (r 1), .ref (r 2), .ref (r 3), .ref (r 4), .ref (r 5), .int 0, .int 0, .int 0, .int 0, .int 0, .long 0, .int 0, .int 0, .int 0, .int (-1), .ref (r 6), .ref (r 7), .ref (r 8), .ref (r 9), .ref (r 10), .ref (r 11), .ref (r 12), .ref (r 13), .int 0, .int 0, .int 0, .ref (r 14), .ref (r 15), .ref (r 16), .ref (r 17), .ref (r 18), .ref (r 19), .ref (r 20), .ref (r 21), .ref (r 22), .ref (r 23), .ref (r 24), .ref (r 25), .ref (r 26), .ref (r 27), .ref (r 28), .ref (r 29), .int 0, .int 0, .int 0, .ref (r 30), .int 0, .int 0, .int 0, .int 0, .int 0, .int 0, .ref (r 31), .int 0, .int 0, .int 0, .ref (r 32), .ref (r 33)])), ((r 6), .inl ((j 4), 5, .inl (fun _ => 0))), ((r 7), .inl ((j 5), 40, .inl (fun _ => 0)))]) [78, 83, 84] rfl
  have hKc := hK.sub (tys' := [((j 4), .int), ((j 5), .int)]) [60, 61] rfl
  have hDc := hD.sub (ws' := [((r 0), .inr (12, [.int 0, .ref (r 1), .ref (r 2), .ref (r 3), .ref (r 4), .ref (r 5), .int 0, .int 0, .int 0, .int 0, .int 0, .long 0, .int 0, .int 0, .int 0, .int (-1), .ref (r 6), .ref (r 7), .ref (r 8), .ref (r 9), .ref (r 10), .ref (r 11), .ref (r 12), .ref (r 13), .int 0, .int 0, .int 0, .ref (r 14), .ref (r 15), .ref (r 16), .ref (r 17), .ref (r 18), .ref (r 19), .ref (r 20), .ref (r 21), .ref (r 22), .ref (r 23), .ref (r 24), .ref (r 25), .ref (r 26), .ref (r 27), .ref (r 28), .ref (r 29), .int 0, .int 0, .int 0, .ref (r 30), .int 0, .int 0, .int 0, .int 0, .int 0, .int 0, .ref (r 31), .int 0, .int 0, .int 0, .ref (r 32), .ref (r 33)])), ((r 6), .inl ((j 4), 5, .inl (fun _ => 0))), ((r 7), .inl ((j 5), 40, .inl (fun _ => 0)))]) [78, 83, 84] (by decide) rfl
  have hFc := va_free (wc := [((r 0), .inr (12, [.int 0, .ref (r 1), .ref (r 2), .ref (r 3), .ref (r 4), .ref (r 5), .int 0, .int 0, .int 0, .int 0, .int 0, .long 0, .int 0, .int 0, .int 0, .int (-1), .ref (r 6), .ref (r 7), .ref (r 8), .ref (r 9), .ref (r 10), .ref (r 11), .ref (r 12), .ref (r 13), .int 0, .int 0, .int 0, .ref (r 14), .ref (r 15), .ref (r 16), .ref (r 17), .ref (r 18), .ref (r 19), .ref (r 20), .ref (r 21), .ref (r 22), .ref (r 23), .ref (r 24), .ref (r 25), .ref (r 26), .ref (r 27), .ref (r 28), .ref (r 29), .int 0, .int 0, .int 0, .ref (r 30), .int 0, .int 0, .int 0, .int 0, .int 0, .int 0, .ref (r 31), .int 0, .int 0, .int 0, .ref (r 32), .ref (r 33)])), ((r 6), .inl ((j 4), 5, .inl (fun _ => 0))), ((r 7), .inl ((j 5), 40, .inl (fun _ => 0)))]) hD hS hA [78, 83, 84] rfl
  refine va_calli (va_runV (As := []) (rest := [.int (-2)]) ⟨hx, hb, hml, hown, hts⟩ (f_X12_loudest l dC dI H.size ((r 0)) ((r 1)) ((r 2)) ((r 3)) ((r 4)) ((r 5)) ((r 6)) ((r 7)) ((r 8)) ((r 9)) ((r 10)) ((r 11)) ((r 12)) ((r 13)) ((r 14)) ((r 15)) ((r 16)) ((r 17)) ((r 18)) ((r 19)) ((r 20)) ((r 21)) ((r 22)) ((r 23)) ((r 24)) ((r 25)) ((r 26)) ((r 27)) ((r 28)) ((r 29)) ((r 30)) ((r 31)) ((r 32)) ((r 33)) ((j 4)) ((j 5))) (cwV 0 hts (gk_V tw_815 tw_816 tw_817 tw_505 wki_f_X12_loudest wkg_f_X12_loudest) rfl rfl rfl (by decide +kernel) ⟨Nat.le_of_ble_eq_true rfl, Nat.le_of_ble_eq_true rfl⟩) ⟨fun a U g mk q => by obtain ⟨q0, q1, qP, qK, qD⟩ := q; exact ⟨q0, q1, qP, va_K.moved (u := U) (U := U.calling g mk a) (Vm.Alike.refl U.vm) qK, qD⟩, va_recv hKc hPc (ci := 12) (q0 := 0) rfl rfl, fun U hU hW => ⟨rfl, by rw [hU], by rw [hU]; exact hPc, va_K.moved hW.alike hKc, hDc.weaken (fun _ _ _ _ => trivial)⟩⟩ rfl rfl hl.1 rfl (lv_room (Nat.le_of_ble_eq_true rfl)) dL_law_868 ⟨Nat.le_of_ble_eq_true rfl, Nat.le_of_ble_eq_true rfl⟩) hS (fun q _ h => hFc q h) hFc (fun oz4 u t H1 locs ht hvm gz3 hB hz1 hk1 hS => ?_)
  generalize H1 = H at hS ⊢
  refine W.widen (k := 305) (n := 4995) (Nat.le_of_ble_eq_true rfl) (Nat.le_of_ble_eq_true rfl) ?_
  obtain rfl := gz3
  refine lv_icmp_eq (tgt := 2293) hx hb dL_law_871 (by decide) (fun cz5 => ?_) (fun cz5 => ?_)
  · skip
    exact law_end (dC := dC) (dI := dI) (Nat.le_of_eq hL6) C0 A hAe (q 0) (r 0) H locs hS ls hl
  · skip
    exact absurd cz5 (by decide)
set_option maxHeartbeats 4000000 in
set_option maxRecDepth 100000 in
theorem law_case_20 {p : Program} {l : Launch} {e : Env} {s : State} {m : MethodId} {below : List Frame} {meth : Method} {c : Code} {dC : Nat → ClassId} {dI : Nat → Nat → Nat} {b L : Nat} {xs : Nat → Int32} (hL6 : L = 6) (C0 : lw_At p s m meth c b L xs) (A : Nat → Prop) (hAe : A = fun q => s.heap.size ≤ q) (q r : Nat → Nat) (k j : Nat → ClassId) (H : Heap) (locs : List Loc) (hK : va_K (dC, dI) vwCl (tX k ++ tM j) s) (hP : va_P (dC, dI) vwCl (wX q k ++ wM r j) H) (hD : va_D A (wX q k ++ wM r j)) (hS : va_S A s.heap H locs) (ls : Array Slot) (hl : lv_has ls 4 [(0, .ref b), (1, .ref (q 0)), (2, .ref (r 0)), (3, .int 0)]) : W p l e room_1 s m #[Value.ref b] below meth c H locs 305 4995 (lw_Z below #[Value.ref b] s) (F0 m 876 ls []) := by
  obtain ⟨hx, hb, hr, hml, hown, hts, hX, hbl, hlocks, hgv⟩ := id C0
  have hown : s.vm.findClass RL = some m.cls := hown
  have hA : ∀ q : Nat, s.heap.size ≤ q → A q := by rw [hAe]; exact fun _ h => h
  have hbA : ¬ A b := by rw [hAe]; exact Nat.not_le.mpr hbl
  refine lv_aload_n hx hb dL_law_876 rfl (lv_at hl 1 rfl) ?_
  refine lv_aload_n hx hb dL_law_877 rfl (lv_at hl 0 rfl) ?_
  refine lv_iload_n hx hb dL_law_878 rfl (lv_at hl 3 rfl) ?_
  refine lv_iconst (v := 1) hx hb dL_law_879 (by decide) ?_
  refine lv_iadd hx hb dL_law_880 ?_
  refine lv_topi (fun xz1 exz1 => ?_)
  obtain rfl : xz1 = 1 := exz1.trans (by decide)
  refine va_sld hx hb hX hbl hbA hS (by rw [hL6]; unfold vp_in; decide) dL_law_881 ?_
  refine W.eq (g2 := F0 m 882 ls [.int (xs 1), .ref (q 0)]) rfl ?_
  have hPc := hP.sub (ws' := [((q 0), .inr (11, [.ref (q 1), .ref (q 2), .ref (q 3), .ref (q 4), .ref (q 5), .ref (q 6), .ref (q 7), .ref (q 8), .ref (q 9), .ref (q 10), .ref (q 11), .ref (q 12), .ref (q 13), .ref (q 14), .ref (q 15)])), ((q 2), .inr (10, [.ref (q 25), .ref (q 26), .ref (q 27), .ref (q 28), .ref (q 29), .ref (q 30), .ref (q 31), .int 0, .int 0, .int 0, .int 0, .int 0, .int 0, .int 0, .int 0, .int 0]))]) [0, 11] rfl
  have hKc := hK.sub (tys' := []) [] rfl
  refine vp_callSi (va_Run.run (va_runV (As := [.int (xs 1)]) (rest := []) ⟨hx, hb, hml, hown, hts⟩ (f_X11_pays l dC dI ((q 0)) ((q 1)) ((q 2)) ((q 3)) ((q 4)) ((q 5)) ((q 6)) ((q 7)) ((q 8)) ((q 9)) ((q 10)) ((q 11)) ((q 12)) ((q 13)) ((q 14)) ((q 15)) ((q 25)) ((q 26)) ((q 27)) ((q 28)) ((q 29)) ((q 30)) ((q 31)) ((xs 1))) (cwV 1 hts (gk_V tw_818 tw_819 tw_820 tw_157 wki_f_X11_pays wkg_f_X11_pays) rfl rfl rfl (by decide +kernel) ⟨Nat.le_of_ble_eq_true rfl, Nat.le_of_ble_eq_true rfl⟩) ⟨fun a U g mk q => by obtain ⟨q0, qP, qK⟩ := q; exact ⟨q0, qP, va_K.moved (u := U) (U := U.calling g mk a) (Vm.Alike.refl U.vm) qK⟩, va_recv hKc hPc (ci := 11) (q0 := 0) rfl rfl, fun U hU hW => ⟨rfl, by rw [hU]; exact hPc, va_K.moved hW.alike hKc⟩⟩ rfl rfl hl.1 rfl (lv_room (Nat.le_of_ble_eq_true rfl)) dL_law_882 ⟨Nat.le_of_ble_eq_true rfl, Nat.le_of_ble_eq_true rfl⟩)) (fun oz3 gz2 => ?_)
  obtain rfl := gz2
  refine lv_aload_n hx hb dL_law_885 rfl (lv_at hl 2 rfl) ?_
  refine lv_aload_n hx hb dL_law_886 rfl (lv_at hl 0 rfl) ?_
  refine lv_iload_n hx hb dL_law_887 rfl (lv_at hl 3 rfl) ?_
  refine lv_iconst (v := 1) hx hb dL_law_888 (by decide) ?_
  refine lv_iadd hx hb dL_law_889 ?_
  refine lv_topi (fun xz4 exz4 => ?_)
  obtain rfl : xz4 = 1 := exz4.trans (by decide)
  refine va_sld hx hb hX hbl hbA hS (by rw [hL6]; unfold vp_in; decide) dL_law_890 ?_
  refine W.eq (g2 := F0 m 891 ls [.int (xs 1), .ref (r 0), .int (-2)]) rfl ?_
  have hPc := hP.sub (ws' := [((r 0), .inr (12, [.int 0, .ref (r 1), .ref (r 2), .ref (r 3), .ref (r 4), .ref (r 5), .int 0, .int 0, .int 0, .int 0, .int 0, .long 0, .int 0, .int 0, .int 0, .int (-1), .ref (r 6), .ref (r 7), .ref (r 8), .ref (r 9), .ref (r 10), .ref (r 11), .ref (r 12), .ref (r 13), .int 0, .int 0, .int 0, .ref (r 14), .ref (r 15), .ref (r 16), .ref (r 17), .ref (r 18), .ref (r 19), .ref (r 20), .ref (r 21), .ref (r 22), .ref (r 23), .ref (r 24), .ref (r 25), .ref (r 26), .ref (r 27), .ref (r 28), .ref (r 29), .int 0, .int 0, .int 0, .ref (r 30), .int 0, .int 0, .int 0, .int 0, .int 0, .int 0, .ref (r 31), .int 0, .int 0, .int 0, .ref (r 32), .ref (r 33)])), ((r 6), .inl ((j 4), 5, .inl (fun _ => 0))), ((r 7), .inl ((j 5), 40, .inl (fun _ => 0)))]) [78, 83, 84] rfl
  have hKc := hK.sub (tys' := [((j 4), .int), ((j 5), .int)]) [60, 61] rfl
  have hDc := hD.sub (ws' := [((r 0), .inr (12, [.int 0, .ref (r 1), .ref (r 2), .ref (r 3), .ref (r 4), .ref (r 5), .int 0, .int 0, .int 0, .int 0, .int 0, .long 0, .int 0, .int 0, .int 0, .int (-1), .ref (r 6), .ref (r 7), .ref (r 8), .ref (r 9), .ref (r 10), .ref (r 11), .ref (r 12), .ref (r 13), .int 0, .int 0, .int 0, .ref (r 14), .ref (r 15), .ref (r 16), .ref (r 17), .ref (r 18), .ref (r 19), .ref (r 20), .ref (r 21), .ref (r 22), .ref (r 23), .ref (r 24), .ref (r 25), .ref (r 26), .ref (r 27), .ref (r 28), .ref (r 29), .int 0, .int 0, .int 0, .ref (r 30), .int 0, .int 0, .int 0, .int 0, .int 0, .int 0, .ref (r 31), .int 0, .int 0, .int 0, .ref (r 32), .ref (r 33)])), ((r 6), .inl ((j 4), 5, .inl (fun _ => 0))), ((r 7), .inl ((j 5), 40, .inl (fun _ => 0)))]) [78, 83, 84] (by decide) rfl
  have hFc := va_free (wc := [((r 0), .inr (12, [.int 0, .ref (r 1), .ref (r 2), .ref (r 3), .ref (r 4), .ref (r 5), .int 0, .int 0, .int 0, .int 0, .int 0, .long 0, .int 0, .int 0, .int 0, .int (-1), .ref (r 6), .ref (r 7), .ref (r 8), .ref (r 9), .ref (r 10), .ref (r 11), .ref (r 12), .ref (r 13), .int 0, .int 0, .int 0, .ref (r 14), .ref (r 15), .ref (r 16), .ref (r 17), .ref (r 18), .ref (r 19), .ref (r 20), .ref (r 21), .ref (r 22), .ref (r 23), .ref (r 24), .ref (r 25), .ref (r 26), .ref (r 27), .ref (r 28), .ref (r 29), .int 0, .int 0, .int 0, .ref (r 30), .int 0, .int 0, .int 0, .int 0, .int 0, .int 0, .ref (r 31), .int 0, .int 0, .int 0, .ref (r 32), .ref (r 33)])), ((r 6), .inl ((j 4), 5, .inl (fun _ => 0))), ((r 7), .inl ((j 5), 40, .inl (fun _ => 0)))]) hD hS hA [78, 83, 84] rfl
  refine va_calli (va_runV (As := [.int (xs 1)]) (rest := [.int (-2)]) ⟨hx, hb, hml, hown, hts⟩ (f_X12_pays l dC dI H.size ((r 0)) ((r 1)) ((r 2)) ((r 3)) ((r 4)) ((r 5)) ((r 6)) ((r 7)) ((r 8)) ((r 9)) ((r 10)) ((r 11)) ((r 12)) ((r 13)) ((r 14)) ((r 15)) ((r 16)) ((r 17)) ((r 18)) ((r 19)) ((r 20)) ((r 21)) ((r 22)) ((r 23)) ((r 24)) ((r 25)) ((r 26)) ((r 27)) ((r 28)) ((r 29)) ((r 30)) ((r 31)) ((r 32)) ((r 33)) ((j 4)) ((j 5)) ((xs 1))) (cwV 1 hts (gk_V tw_821 tw_822 tw_823 tw_505 wki_f_X12_pays wkg_f_X12_pays) rfl rfl rfl (by decide +kernel) ⟨Nat.le_of_ble_eq_true rfl, Nat.le_of_ble_eq_true rfl⟩) ⟨fun a U g mk q => by obtain ⟨q0, q1, qP, qK, qD⟩ := q; exact ⟨q0, q1, qP, va_K.moved (u := U) (U := U.calling g mk a) (Vm.Alike.refl U.vm) qK, qD⟩, va_recv hKc hPc (ci := 12) (q0 := 0) rfl rfl, fun U hU hW => ⟨rfl, by rw [hU], by rw [hU]; exact hPc, va_K.moved hW.alike hKc, hDc.weaken (fun _ _ _ _ => trivial)⟩⟩ rfl rfl hl.1 rfl (lv_room (Nat.le_of_ble_eq_true rfl)) dL_law_891 ⟨Nat.le_of_ble_eq_true rfl, Nat.le_of_ble_eq_true rfl⟩) hS (fun q _ h => hFc q h) hFc (fun oz6 u t H1 locs ht hvm gz5 hB hz1 hk1 hS => ?_)
  generalize H1 = H at hS ⊢
  refine W.widen (k := 305) (n := 4995) (Nat.le_of_ble_eq_true rfl) (Nat.le_of_ble_eq_true rfl) ?_
  obtain rfl := gz5
  refine lv_icmp_eq (tgt := 2293) hx hb dL_law_894 (by decide) (fun cz7 => ?_) (fun cz7 => ?_)
  · skip
    exact law_end (dC := dC) (dI := dI) (Nat.le_of_eq hL6) C0 A hAe (q 0) (r 0) H locs hS ls hl
  · skip
    exact absurd cz7 (by decide)
set_option maxHeartbeats 4000000 in
set_option maxRecDepth 100000 in
theorem law_case_21 {p : Program} {l : Launch} {e : Env} {s : State} {m : MethodId} {below : List Frame} {meth : Method} {c : Code} {dC : Nat → ClassId} {dI : Nat → Nat → Nat} {b L : Nat} {xs : Nat → Int32} (hL6 : L = 6) (C0 : lw_At p s m meth c b L xs) (A : Nat → Prop) (hAe : A = fun q => s.heap.size ≤ q) (q r : Nat → Nat) (k j : Nat → ClassId) (H : Heap) (locs : List Loc) (hK : va_K (dC, dI) vwCl (tX k ++ tM j) s) (hP : va_P (dC, dI) vwCl (wX q k ++ wM r j) H) (hD : va_D A (wX q k ++ wM r j)) (hS : va_S A s.heap H locs) (ls : Array Slot) (hl : lv_has ls 4 [(0, .ref b), (1, .ref (q 0)), (2, .ref (r 0)), (3, .int 0)]) : W p l e room_1 s m #[Value.ref b] below meth c H locs 305 4995 (lw_Z below #[Value.ref b] s) (F0 m 899 ls []) := by
  obtain ⟨hx, hb, hr, hml, hown, hts, hX, hbl, hlocks, hgv⟩ := id C0
  have hown : s.vm.findClass RL = some m.cls := hown
  have hA : ∀ q : Nat, s.heap.size ≤ q → A q := by rw [hAe]; exact fun _ h => h
  have hbA : ¬ A b := by rw [hAe]; exact Nat.not_le.mpr hbl
  refine lv_aload_n hx hb dL_law_899 rfl (lv_at hl 1 rfl) ?_
  have hPc := hP.sub (ws' := [((q 0), .inr (11, [.ref (q 1), .ref (q 2), .ref (q 3), .ref (q 4), .ref (q 5), .ref (q 6), .ref (q 7), .ref (q 8), .ref (q 9), .ref (q 10), .ref (q 11), .ref (q 12), .ref (q 13), .ref (q 14), .ref (q 15)])), ((q 2), .inr (10, [.ref (q 25), .ref (q 26), .ref (q 27), .ref (q 28), .ref (q 29), .ref (q 30), .ref (q 31), .int 0, .int 0, .int 0, .int 0, .int 0, .int 0, .int 0, .int 0, .int 0]))]) [0, 11] rfl
  have hKc := hK.sub (tys' := []) [] rfl
  refine vp_callSi (va_Run.run (va_runV (As := []) (rest := []) ⟨hx, hb, hml, hown, hts⟩ (f_X11_tolls l dC dI ((q 0)) ((q 1)) ((q 2)) ((q 3)) ((q 4)) ((q 5)) ((q 6)) ((q 7)) ((q 8)) ((q 9)) ((q 10)) ((q 11)) ((q 12)) ((q 13)) ((q 14)) ((q 15)) ((q 25)) ((q 26)) ((q 27)) ((q 28)) ((q 29)) ((q 30)) ((q 31))) (cwV 0 hts (gk_V tw_824 tw_825 tw_826 tw_157 wki_f_X11_tolls wkg_f_X11_tolls) rfl rfl rfl (by decide +kernel) ⟨Nat.le_of_ble_eq_true rfl, Nat.le_of_ble_eq_true rfl⟩) ⟨fun a U g mk q => by obtain ⟨q0, qP, qK⟩ := q; exact ⟨q0, qP, va_K.moved (u := U) (U := U.calling g mk a) (Vm.Alike.refl U.vm) qK⟩, va_recv hKc hPc (ci := 11) (q0 := 0) rfl rfl, fun U hU hW => ⟨rfl, by rw [hU]; exact hPc, va_K.moved hW.alike hKc⟩⟩ rfl rfl hl.1 rfl (lv_room (Nat.le_of_ble_eq_true rfl)) dL_law_900 ⟨Nat.le_of_ble_eq_true rfl, Nat.le_of_ble_eq_true rfl⟩)) (fun oz2 gz1 => ?_)
  obtain rfl := gz1
  refine lv_aload_n hx hb dL_law_903 rfl (lv_at hl 2 rfl) ?_
  have hPc := hP.sub (ws' := [((r 0), .inr (12, [.int 0, .ref (r 1), .ref (r 2), .ref (r 3), .ref (r 4), .ref (r 5), .int 0, .int 0, .int 0, .int 0, .int 0, .long 0, .int 0, .int 0, .int 0, .int (-1), .ref (r 6), .ref (r 7), .ref (r 8), .ref (r 9), .ref (r 10), .ref (r 11), .ref (r 12), .ref (r 13), .int 0, .int 0, .int 0, .ref (r 14), .ref (r 15), .ref (r 16), .ref (r 17), .ref (r 18), .ref (r 19), .ref (r 20), .ref (r 21), .ref (r 22), .ref (r 23), .ref (r 24), .ref (r 25), .ref (r 26), .ref (r 27), .ref (r 28), .ref (r 29), .int 0, .int 0, .int 0, .ref (r 30), .int 0, .int 0, .int 0, .int 0, .int 0, .int 0, .ref (r 31), .int 0, .int 0, .int 0, .ref (r 32), .ref (r 33)])), ((r 6), .inl ((j 4), 5, .inl (fun _ => 0))), ((r 7), .inl ((j 5), 40, .inl (fun _ => 0)))]) [78, 83, 84] rfl
  have hKc := hK.sub (tys' := [((j 4), .int), ((j 5), .int)]) [60, 61] rfl
  have hDc := hD.sub (ws' := [((r 0), .inr (12, [.int 0, .ref (r 1), .ref (r 2), .ref (r 3), .ref (r 4), .ref (r 5), .int 0, .int 0, .int 0, .int 0, .int 0, .long 0, .int 0, .int 0, .int 0, .int (-1), .ref (r 6), .ref (r 7), .ref (r 8), .ref (r 9), .ref (r 10), .ref (r 11), .ref (r 12), .ref (r 13), .int 0, .int 0, .int 0, .ref (r 14), .ref (r 15), .ref (r 16), .ref (r 17), .ref (r 18), .ref (r 19), .ref (r 20), .ref (r 21), .ref (r 22), .ref (r 23), .ref (r 24), .ref (r 25), .ref (r 26), .ref (r 27), .ref (r 28), .ref (r 29), .int 0, .int 0, .int 0, .ref (r 30), .int 0, .int 0, .int 0, .int 0, .int 0, .int 0, .ref (r 31), .int 0, .int 0, .int 0, .ref (r 32), .ref (r 33)])), ((r 6), .inl ((j 4), 5, .inl (fun _ => 0))), ((r 7), .inl ((j 5), 40, .inl (fun _ => 0)))]) [78, 83, 84] (by decide) rfl
  have hFc := va_free (wc := [((r 0), .inr (12, [.int 0, .ref (r 1), .ref (r 2), .ref (r 3), .ref (r 4), .ref (r 5), .int 0, .int 0, .int 0, .int 0, .int 0, .long 0, .int 0, .int 0, .int 0, .int (-1), .ref (r 6), .ref (r 7), .ref (r 8), .ref (r 9), .ref (r 10), .ref (r 11), .ref (r 12), .ref (r 13), .int 0, .int 0, .int 0, .ref (r 14), .ref (r 15), .ref (r 16), .ref (r 17), .ref (r 18), .ref (r 19), .ref (r 20), .ref (r 21), .ref (r 22), .ref (r 23), .ref (r 24), .ref (r 25), .ref (r 26), .ref (r 27), .ref (r 28), .ref (r 29), .int 0, .int 0, .int 0, .ref (r 30), .int 0, .int 0, .int 0, .int 0, .int 0, .int 0, .ref (r 31), .int 0, .int 0, .int 0, .ref (r 32), .ref (r 33)])), ((r 6), .inl ((j 4), 5, .inl (fun _ => 0))), ((r 7), .inl ((j 5), 40, .inl (fun _ => 0)))]) hD hS hA [78, 83, 84] rfl
  refine va_calli (va_runV (As := []) (rest := [.int (-2)]) ⟨hx, hb, hml, hown, hts⟩ (f_X12_tolls l dC dI H.size ((r 0)) ((r 1)) ((r 2)) ((r 3)) ((r 4)) ((r 5)) ((r 6)) ((r 7)) ((r 8)) ((r 9)) ((r 10)) ((r 11)) ((r 12)) ((r 13)) ((r 14)) ((r 15)) ((r 16)) ((r 17)) ((r 18)) ((r 19)) ((r 20)) ((r 21)) ((r 22)) ((r 23)) ((r 24)) ((r 25)) ((r 26)) ((r 27)) ((r 28)) ((r 29)) ((r 30)) ((r 31)) ((r 32)) ((r 33)) ((j 4)) ((j 5))) (cwV 0 hts (gk_V tw_827 tw_828 tw_829 tw_505 wki_f_X12_tolls wkg_f_X12_tolls) rfl rfl rfl (by decide +kernel) ⟨Nat.le_of_ble_eq_true rfl, Nat.le_of_ble_eq_true rfl⟩) ⟨fun a U g mk q => by obtain ⟨q0, q1, qP, qK, qD⟩ := q; exact ⟨q0, q1, qP, va_K.moved (u := U) (U := U.calling g mk a) (Vm.Alike.refl U.vm) qK, qD⟩, va_recv hKc hPc (ci := 12) (q0 := 0) rfl rfl, fun U hU hW => ⟨rfl, by rw [hU], by rw [hU]; exact hPc, va_K.moved hW.alike hKc, hDc.weaken (fun _ _ _ _ => trivial)⟩⟩ rfl rfl hl.1 rfl (lv_room (Nat.le_of_ble_eq_true rfl)) dL_law_904 ⟨Nat.le_of_ble_eq_true rfl, Nat.le_of_ble_eq_true rfl⟩) hS (fun q _ h => hFc q h) hFc (fun oz4 u t H1 locs ht hvm gz3 hB hz1 hk1 hS => ?_)
  generalize H1 = H at hS ⊢
  refine W.widen (k := 305) (n := 4995) (Nat.le_of_ble_eq_true rfl) (Nat.le_of_ble_eq_true rfl) ?_
  obtain rfl := gz3
  refine lv_icmp_eq (tgt := 2293) hx hb dL_law_907 (by decide) (fun cz5 => ?_) (fun cz5 => ?_)
  · skip
    exact law_end (dC := dC) (dI := dI) (Nat.le_of_eq hL6) C0 A hAe (q 0) (r 0) H locs hS ls hl
  · skip
    exact absurd cz5 (by decide)
set_option maxHeartbeats 4000000 in
set_option maxRecDepth 100000 in
theorem law_case_22 {p : Program} {l : Launch} {e : Env} {s : State} {m : MethodId} {below : List Frame} {meth : Method} {c : Code} {dC : Nat → ClassId} {dI : Nat → Nat → Nat} {b L : Nat} {xs : Nat → Int32} (hL6 : L = 6) (C0 : lw_At p s m meth c b L xs) (A : Nat → Prop) (hAe : A = fun q => s.heap.size ≤ q) (q r : Nat → Nat) (k j : Nat → ClassId) (H : Heap) (locs : List Loc) (hK : va_K (dC, dI) vwCl (tX k ++ tM j) s) (hP : va_P (dC, dI) vwCl (wX q k ++ wM r j) H) (hD : va_D A (wX q k ++ wM r j)) (hS : va_S A s.heap H locs) (ls : Array Slot) (hl : lv_has ls 4 [(0, .ref b), (1, .ref (q 0)), (2, .ref (r 0)), (3, .int 0)]) : W p l e room_1 s m #[Value.ref b] below meth c H locs 305 4995 (lw_Z below #[Value.ref b] s) (F0 m 912 ls []) := by
  obtain ⟨hx, hb, hr, hml, hown, hts, hX, hbl, hlocks, hgv⟩ := id C0
  have hown : s.vm.findClass RL = some m.cls := hown
  have hA : ∀ q : Nat, s.heap.size ≤ q → A q := by rw [hAe]; exact fun _ h => h
  have hbA : ¬ A b := by rw [hAe]; exact Nat.not_le.mpr hbl
  refine lv_aload_n hx hb dL_law_912 rfl (lv_at hl 1 rfl) ?_
  refine lv_aload_n hx hb dL_law_913 rfl (lv_at hl 0 rfl) ?_
  refine lv_iload_n hx hb dL_law_914 rfl (lv_at hl 3 rfl) ?_
  refine lv_iconst (v := 1) hx hb dL_law_915 (by decide) ?_
  refine lv_iadd hx hb dL_law_916 ?_
  refine lv_topi (fun xz1 exz1 => ?_)
  obtain rfl : xz1 = 1 := exz1.trans (by decide)
  refine va_sld hx hb hX hbl hbA hS (by rw [hL6]; unfold vp_in; decide) dL_law_917 ?_
  refine W.eq (g2 := F0 m 918 ls [.int (xs 1), .ref (q 0)]) rfl ?_
  have hPc := hP.sub (ws' := [((q 0), .inr (11, [.ref (q 1), .ref (q 2), .ref (q 3), .ref (q 4), .ref (q 5), .ref (q 6), .ref (q 7), .ref (q 8), .ref (q 9), .ref (q 10), .ref (q 11), .ref (q 12), .ref (q 13), .ref (q 14), .ref (q 15)])), ((q 2), .inr (10, [.ref (q 25), .ref (q 26), .ref (q 27), .ref (q 28), .ref (q 29), .ref (q 30), .ref (q 31), .int 0, .int 0, .int 0, .int 0, .int 0, .int 0, .int 0, .int 0, .int 0]))]) [0, 11] rfl
  have hKc := hK.sub (tys' := []) [] rfl
  refine vp_callSi (va_Run.run (va_runV (As := [.int (xs 1)]) (rest := []) ⟨hx, hb, hml, hown, hts⟩ (f_X11_wipes l dC dI ((q 0)) ((q 1)) ((q 2)) ((q 3)) ((q 4)) ((q 5)) ((q 6)) ((q 7)) ((q 8)) ((q 9)) ((q 10)) ((q 11)) ((q 12)) ((q 13)) ((q 14)) ((q 15)) ((q 25)) ((q 26)) ((q 27)) ((q 28)) ((q 29)) ((q 30)) ((q 31)) ((xs 1))) (cwV 1 hts (gk_V tw_830 tw_831 tw_832 tw_157 wki_f_X11_wipes wkg_f_X11_wipes) rfl rfl rfl (by decide +kernel) ⟨Nat.le_of_ble_eq_true rfl, Nat.le_of_ble_eq_true rfl⟩) ⟨fun a U g mk q => by obtain ⟨q0, qP, qK⟩ := q; exact ⟨q0, qP, va_K.moved (u := U) (U := U.calling g mk a) (Vm.Alike.refl U.vm) qK⟩, va_recv hKc hPc (ci := 11) (q0 := 0) rfl rfl, fun U hU hW => ⟨rfl, by rw [hU]; exact hPc, va_K.moved hW.alike hKc⟩⟩ rfl rfl hl.1 rfl (lv_room (Nat.le_of_ble_eq_true rfl)) dL_law_918 ⟨Nat.le_of_ble_eq_true rfl, Nat.le_of_ble_eq_true rfl⟩)) (fun oz3 gz2 => ?_)
  obtain rfl := gz2
  refine lv_aload_n hx hb dL_law_921 rfl (lv_at hl 2 rfl) ?_
  refine lv_aload_n hx hb dL_law_922 rfl (lv_at hl 0 rfl) ?_
  refine lv_iload_n hx hb dL_law_923 rfl (lv_at hl 3 rfl) ?_
  refine lv_iconst (v := 1) hx hb dL_law_924 (by decide) ?_
  refine lv_iadd hx hb dL_law_925 ?_
  refine lv_topi (fun xz4 exz4 => ?_)
  obtain rfl : xz4 = 1 := exz4.trans (by decide)
  refine va_sld hx hb hX hbl hbA hS (by rw [hL6]; unfold vp_in; decide) dL_law_926 ?_
  refine W.eq (g2 := F0 m 927 ls [.int (xs 1), .ref (r 0), .int (-2)]) rfl ?_
  have hPc := hP.sub (ws' := [((r 0), .inr (12, [.int 0, .ref (r 1), .ref (r 2), .ref (r 3), .ref (r 4), .ref (r 5), .int 0, .int 0, .int 0, .int 0, .int 0, .long 0, .int 0, .int 0, .int 0, .int (-1), .ref (r 6), .ref (r 7), .ref (r 8), .ref (r 9), .ref (r 10), .ref (r 11), .ref (r 12), .ref (r 13), .int 0, .int 0, .int 0, .ref (r 14), .ref (r 15), .ref (r 16), .ref (r 17), .ref (r 18), .ref (r 19), .ref (r 20), .ref (r 21), .ref (r 22), .ref (r 23), .ref (r 24), .ref (r 25), .ref (r 26), .ref (r 27), .ref (r 28), .ref (r 29), .int 0, .int 0, .int 0, .ref (r 30), .int 0, .int 0, .int 0, .int 0, .int 0, .int 0, .ref (r 31), .int 0, .int 0, .int 0, .ref (r 32), .ref (r 33)])), ((r 6), .inl ((j 4), 5, .inl (fun _ => 0))), ((r 7), .inl ((j 5), 40, .inl (fun _ => 0)))]) [78, 83, 84] rfl
  have hKc := hK.sub (tys' := [((j 4), .int), ((j 5), .int)]) [60, 61] rfl
  have hDc := hD.sub (ws' := [((r 0), .inr (12, [.int 0, .ref (r 1), .ref (r 2), .ref (r 3), .ref (r 4), .ref (r 5), .int 0, .int 0, .int 0, .int 0, .int 0, .long 0, .int 0, .int 0, .int 0, .int (-1), .ref (r 6), .ref (r 7), .ref (r 8), .ref (r 9), .ref (r 10), .ref (r 11), .ref (r 12), .ref (r 13), .int 0, .int 0, .int 0, .ref (r 14), .ref (r 15), .ref (r 16), .ref (r 17), .ref (r 18), .ref (r 19), .ref (r 20), .ref (r 21), .ref (r 22), .ref (r 23), .ref (r 24), .ref (r 25), .ref (r 26), .ref (r 27), .ref (r 28), .ref (r 29), .int 0, .int 0, .int 0, .ref (r 30), .int 0, .int 0, .int 0, .int 0, .int 0, .int 0, .ref (r 31), .int 0, .int 0, .int 0, .ref (r 32), .ref (r 33)])), ((r 6), .inl ((j 4), 5, .inl (fun _ => 0))), ((r 7), .inl ((j 5), 40, .inl (fun _ => 0)))]) [78, 83, 84] (by decide) rfl
  have hFc := va_free (wc := [((r 0), .inr (12, [.int 0, .ref (r 1), .ref (r 2), .ref (r 3), .ref (r 4), .ref (r 5), .int 0, .int 0, .int 0, .int 0, .int 0, .long 0, .int 0, .int 0, .int 0, .int (-1), .ref (r 6), .ref (r 7), .ref (r 8), .ref (r 9), .ref (r 10), .ref (r 11), .ref (r 12), .ref (r 13), .int 0, .int 0, .int 0, .ref (r 14), .ref (r 15), .ref (r 16), .ref (r 17), .ref (r 18), .ref (r 19), .ref (r 20), .ref (r 21), .ref (r 22), .ref (r 23), .ref (r 24), .ref (r 25), .ref (r 26), .ref (r 27), .ref (r 28), .ref (r 29), .int 0, .int 0, .int 0, .ref (r 30), .int 0, .int 0, .int 0, .int 0, .int 0, .int 0, .ref (r 31), .int 0, .int 0, .int 0, .ref (r 32), .ref (r 33)])), ((r 6), .inl ((j 4), 5, .inl (fun _ => 0))), ((r 7), .inl ((j 5), 40, .inl (fun _ => 0)))]) hD hS hA [78, 83, 84] rfl
  refine va_calli (va_runV (As := [.int (xs 1)]) (rest := [.int (-2)]) ⟨hx, hb, hml, hown, hts⟩ (f_X12_wipes l dC dI H.size ((r 0)) ((r 1)) ((r 2)) ((r 3)) ((r 4)) ((r 5)) ((r 6)) ((r 7)) ((r 8)) ((r 9)) ((r 10)) ((r 11)) ((r 12)) ((r 13)) ((r 14)) ((r 15)) ((r 16)) ((r 17)) ((r 18)) ((r 19)) ((r 20)) ((r 21)) ((r 22)) ((r 23)) ((r 24)) ((r 25)) ((r 26)) ((r 27)) ((r 28)) ((r 29)) ((r 30)) ((r 31)) ((r 32)) ((r 33)) ((j 4)) ((j 5)) ((xs 1))) (cwV 1 hts (gk_V tw_833 tw_834 tw_835 tw_505 wki_f_X12_wipes wkg_f_X12_wipes) rfl rfl rfl (by decide +kernel) ⟨Nat.le_of_ble_eq_true rfl, Nat.le_of_ble_eq_true rfl⟩) ⟨fun a U g mk q => by obtain ⟨q0, q1, qP, qK, qD⟩ := q; exact ⟨q0, q1, qP, va_K.moved (u := U) (U := U.calling g mk a) (Vm.Alike.refl U.vm) qK, qD⟩, va_recv hKc hPc (ci := 12) (q0 := 0) rfl rfl, fun U hU hW => ⟨rfl, by rw [hU], by rw [hU]; exact hPc, va_K.moved hW.alike hKc, hDc.weaken (fun _ _ _ _ => trivial)⟩⟩ rfl rfl hl.1 rfl (lv_room (Nat.le_of_ble_eq_true rfl)) dL_law_927 ⟨Nat.le_of_ble_eq_true rfl, Nat.le_of_ble_eq_true rfl⟩) hS (fun q _ h => hFc q h) hFc (fun oz6 u t H1 locs ht hvm gz5 hB hz1 hk1 hS => ?_)
  generalize H1 = H at hS ⊢
  refine W.widen (k := 305) (n := 4995) (Nat.le_of_ble_eq_true rfl) (Nat.le_of_ble_eq_true rfl) ?_
  obtain rfl := gz5
  refine lv_icmp_eq (tgt := 2293) hx hb dL_law_930 (by decide) (fun cz7 => ?_) (fun cz7 => ?_)
  · skip
    exact law_end (dC := dC) (dI := dI) (Nat.le_of_eq hL6) C0 A hAe (q 0) (r 0) H locs hS ls hl
  · skip
    exact absurd cz7 (by decide)
set_option maxHeartbeats 4000000 in
set_option maxRecDepth 100000 in
theorem law_case_23 {p : Program} {l : Launch} {e : Env} {s : State} {m : MethodId} {below : List Frame} {meth : Method} {c : Code} {dC : Nat → ClassId} {dI : Nat → Nat → Nat} {b L : Nat} {xs : Nat → Int32} (hL6 : L = 6) (C0 : lw_At p s m meth c b L xs) (A : Nat → Prop) (hAe : A = fun q => s.heap.size ≤ q) (q r : Nat → Nat) (k j : Nat → ClassId) (H : Heap) (locs : List Loc) (hK : va_K (dC, dI) vwCl (tX k ++ tM j) s) (hP : va_P (dC, dI) vwCl (wX q k ++ wM r j) H) (hD : va_D A (wX q k ++ wM r j)) (hS : va_S A s.heap H locs) (ls : Array Slot) (hl : lv_has ls 4 [(0, .ref b), (1, .ref (q 0)), (2, .ref (r 0)), (3, .int 0)]) : W p l e room_1 s m #[Value.ref b] below meth c H locs 305 4995 (lw_Z below #[Value.ref b] s) (F0 m 935 ls []) := by
  obtain ⟨hx, hb, hr, hml, hown, hts, hX, hbl, hlocks, hgv⟩ := id C0
  have hown : s.vm.findClass RL = some m.cls := hown
  have hA : ∀ q : Nat, s.heap.size ≤ q → A q := by rw [hAe]; exact fun _ h => h
  have hbA : ¬ A b := by rw [hAe]; exact Nat.not_le.mpr hbl
  refine lv_aload_n hx hb dL_law_935 rfl (lv_at hl 1 rfl) ?_
  refine lv_aload_n hx hb dL_law_936 rfl (lv_at hl 0 rfl) ?_
  refine lv_iload_n hx hb dL_law_937 rfl (lv_at hl 3 rfl) ?_
  refine lv_iconst (v := 1) hx hb dL_law_938 (by decide) ?_
  refine lv_iadd hx hb dL_law_939 ?_
  refine lv_topi (fun xz1 exz1 => ?_)
  obtain rfl : xz1 = 1 := exz1.trans (by decide)
  refine va_sld hx hb hX hbl hbA hS (by rw [hL6]; unfold vp_in; decide) dL_law_940 ?_
  refine W.eq (g2 := F0 m 941 ls [.int (xs 1), .ref (q 0)]) rfl ?_
  have hPc := hP.sub (ws' := [((q 0), .inr (11, [.ref (q 1), .ref (q 2), .ref (q 3), .ref (q 4), .ref (q 5), .ref (q 6), .ref (q 7), .ref (q 8), .ref (q 9), .ref (q 10), .ref (q 11), .ref (q 12), .ref (q 13), .ref (q 14), .ref (q 15)])), ((q 2), .inr (10, [.ref (q 25), .ref (q 26), .ref (q 27), .ref (q 28), .ref (q 29), .ref (q 30), .ref (q 31), .int 0, .int 0, .int 0, .int 0, .int 0, .int 0, .int 0, .int 0, .int 0]))]) [0, 11] rfl
  have hKc := hK.sub (tys' := []) [] rfl
  refine vp_callSi (va_Run.run (va_runV (As := [.int (xs 1)]) (rest := []) ⟨hx, hb, hml, hown, hts⟩ (f_X11_breaks l dC dI ((q 0)) ((q 1)) ((q 2)) ((q 3)) ((q 4)) ((q 5)) ((q 6)) ((q 7)) ((q 8)) ((q 9)) ((q 10)) ((q 11)) ((q 12)) ((q 13)) ((q 14)) ((q 15)) ((q 25)) ((q 26)) ((q 27)) ((q 28)) ((q 29)) ((q 30)) ((q 31)) ((xs 1))) (cwV 1 hts (gk_V tw_836 tw_837 tw_838 tw_157 wki_f_X11_breaks wkg_f_X11_breaks) rfl rfl rfl (by decide +kernel) ⟨Nat.le_of_ble_eq_true rfl, Nat.le_of_ble_eq_true rfl⟩) ⟨fun a U g mk q => by obtain ⟨q0, qP, qK⟩ := q; exact ⟨q0, qP, va_K.moved (u := U) (U := U.calling g mk a) (Vm.Alike.refl U.vm) qK⟩, va_recv hKc hPc (ci := 11) (q0 := 0) rfl rfl, fun U hU hW => ⟨rfl, by rw [hU]; exact hPc, va_K.moved hW.alike hKc⟩⟩ rfl rfl hl.1 rfl (lv_room (Nat.le_of_ble_eq_true rfl)) dL_law_941 ⟨Nat.le_of_ble_eq_true rfl, Nat.le_of_ble_eq_true rfl⟩)) (fun oz3 gz2 => ?_)
  obtain rfl := gz2
  refine lv_aload_n hx hb dL_law_944 rfl (lv_at hl 2 rfl) ?_
  refine lv_aload_n hx hb dL_law_945 rfl (lv_at hl 0 rfl) ?_
  refine lv_iload_n hx hb dL_law_946 rfl (lv_at hl 3 rfl) ?_
  refine lv_iconst (v := 1) hx hb dL_law_947 (by decide) ?_
  refine lv_iadd hx hb dL_law_948 ?_
  refine lv_topi (fun xz4 exz4 => ?_)
  obtain rfl : xz4 = 1 := exz4.trans (by decide)
  refine va_sld hx hb hX hbl hbA hS (by rw [hL6]; unfold vp_in; decide) dL_law_949 ?_
  refine W.eq (g2 := F0 m 950 ls [.int (xs 1), .ref (r 0), .int (-2)]) rfl ?_
  have hPc := hP.sub (ws' := [((r 0), .inr (12, [.int 0, .ref (r 1), .ref (r 2), .ref (r 3), .ref (r 4), .ref (r 5), .int 0, .int 0, .int 0, .int 0, .int 0, .long 0, .int 0, .int 0, .int 0, .int (-1), .ref (r 6), .ref (r 7), .ref (r 8), .ref (r 9), .ref (r 10), .ref (r 11), .ref (r 12), .ref (r 13), .int 0, .int 0, .int 0, .ref (r 14), .ref (r 15), .ref (r 16), .ref (r 17), .ref (r 18), .ref (r 19), .ref (r 20), .ref (r 21), .ref (r 22), .ref (r 23), .ref (r 24), .ref (r 25), .ref (r 26), .ref (r 27), .ref (r 28), .ref (r 29), .int 0, .int 0, .int 0, .ref (r 30), .int 0, .int 0, .int 0, .int 0, .int 0, .int 0, .ref (r 31), .int 0, .int 0, .int 0, .ref (r 32), .ref (r 33)])), ((r 6), .inl ((j 4), 5, .inl (fun _ => 0))), ((r 7), .inl ((j 5), 40, .inl (fun _ => 0)))]) [78, 83, 84] rfl
  have hKc := hK.sub (tys' := [((j 4), .int), ((j 5), .int)]) [60, 61] rfl
  have hDc := hD.sub (ws' := [((r 0), .inr (12, [.int 0, .ref (r 1), .ref (r 2), .ref (r 3), .ref (r 4), .ref (r 5), .int 0, .int 0, .int 0, .int 0, .int 0, .long 0, .int 0, .int 0, .int 0, .int (-1), .ref (r 6), .ref (r 7), .ref (r 8), .ref (r 9), .ref (r 10), .ref (r 11), .ref (r 12), .ref (r 13), .int 0, .int 0, .int 0, .ref (r 14), .ref (r 15), .ref (r 16), .ref (r 17), .ref (r 18), .ref (r 19), .ref (r 20), .ref (r 21), .ref (r 22), .ref (r 23), .ref (r 24), .ref (r 25), .ref (r 26), .ref (r 27), .ref (r 28), .ref (r 29), .int 0, .int 0, .int 0, .ref (r 30), .int 0, .int 0, .int 0, .int 0, .int 0, .int 0, .ref (r 31), .int 0, .int 0, .int 0, .ref (r 32), .ref (r 33)])), ((r 6), .inl ((j 4), 5, .inl (fun _ => 0))), ((r 7), .inl ((j 5), 40, .inl (fun _ => 0)))]) [78, 83, 84] (by decide) rfl
  have hFc := va_free (wc := [((r 0), .inr (12, [.int 0, .ref (r 1), .ref (r 2), .ref (r 3), .ref (r 4), .ref (r 5), .int 0, .int 0, .int 0, .int 0, .int 0, .long 0, .int 0, .int 0, .int 0, .int (-1), .ref (r 6), .ref (r 7), .ref (r 8), .ref (r 9), .ref (r 10), .ref (r 11), .ref (r 12), .ref (r 13), .int 0, .int 0, .int 0, .ref (r 14), .ref (r 15), .ref (r 16), .ref (r 17), .ref (r 18), .ref (r 19), .ref (r 20), .ref (r 21), .ref (r 22), .ref (r 23), .ref (r 24), .ref (r 25), .ref (r 26), .ref (r 27), .ref (r 28), .ref (r 29), .int 0, .int 0, .int 0, .ref (r 30), .int 0, .int 0, .int 0, .int 0, .int 0, .int 0, .ref (r 31), .int 0, .int 0, .int 0, .ref (r 32), .ref (r 33)])), ((r 6), .inl ((j 4), 5, .inl (fun _ => 0))), ((r 7), .inl ((j 5), 40, .inl (fun _ => 0)))]) hD hS hA [78, 83, 84] rfl
  refine va_calli (va_runV (As := [.int (xs 1)]) (rest := [.int (-2)]) ⟨hx, hb, hml, hown, hts⟩ (f_X12_breaks l dC dI H.size ((r 0)) ((r 1)) ((r 2)) ((r 3)) ((r 4)) ((r 5)) ((r 6)) ((r 7)) ((r 8)) ((r 9)) ((r 10)) ((r 11)) ((r 12)) ((r 13)) ((r 14)) ((r 15)) ((r 16)) ((r 17)) ((r 18)) ((r 19)) ((r 20)) ((r 21)) ((r 22)) ((r 23)) ((r 24)) ((r 25)) ((r 26)) ((r 27)) ((r 28)) ((r 29)) ((r 30)) ((r 31)) ((r 32)) ((r 33)) ((j 4)) ((j 5)) ((xs 1))) (cwV 1 hts (gk_V tw_839 tw_840 tw_841 tw_505 wki_f_X12_breaks wkg_f_X12_breaks) rfl rfl rfl (by decide +kernel) ⟨Nat.le_of_ble_eq_true rfl, Nat.le_of_ble_eq_true rfl⟩) ⟨fun a U g mk q => by obtain ⟨q0, q1, qP, qK, qD⟩ := q; exact ⟨q0, q1, qP, va_K.moved (u := U) (U := U.calling g mk a) (Vm.Alike.refl U.vm) qK, qD⟩, va_recv hKc hPc (ci := 12) (q0 := 0) rfl rfl, fun U hU hW => ⟨rfl, by rw [hU], by rw [hU]; exact hPc, va_K.moved hW.alike hKc, hDc.weaken (fun _ _ _ _ => trivial)⟩⟩ rfl rfl hl.1 rfl (lv_room (Nat.le_of_ble_eq_true rfl)) dL_law_950 ⟨Nat.le_of_ble_eq_true rfl, Nat.le_of_ble_eq_true rfl⟩) hS (fun q _ h => hFc q h) hFc (fun oz6 u t H1 locs ht hvm gz5 hB hz1 hk1 hS => ?_)
  generalize H1 = H at hS ⊢
  refine W.widen (k := 305) (n := 4995) (Nat.le_of_ble_eq_true rfl) (Nat.le_of_ble_eq_true rfl) ?_
  obtain rfl := gz5
  refine lv_icmp_eq (tgt := 2293) hx hb dL_law_953 (by decide) (fun cz7 => ?_) (fun cz7 => ?_)
  · skip
    exact law_end (dC := dC) (dI := dI) (Nat.le_of_eq hL6) C0 A hAe (q 0) (r 0) H locs hS ls hl
  · skip
    exact absurd cz7 (by decide)
set_option maxHeartbeats 4000000 in
set_option maxRecDepth 100000 in
theorem law_case_24 {p : Program} {l : Launch} {e : Env} {s : State} {m : MethodId} {below : List Frame} {meth : Method} {c : Code} {dC : Nat → ClassId} {dI : Nat → Nat → Nat} {b L : Nat} {xs : Nat → Int32} (hL6 : L = 6) (C0 : lw_At p s m meth c b L xs) (A : Nat → Prop) (hAe : A = fun q => s.heap.size ≤ q) (q r : Nat → Nat) (k j : Nat → ClassId) (H : Heap) (locs : List Loc) (hK : va_K (dC, dI) vwCl (tX k ++ tM j) s) (hP : va_P (dC, dI) vwCl (wX q k ++ wM r j) H) (hD : va_D A (wX q k ++ wM r j)) (hS : va_S A s.heap H locs) (ls : Array Slot) (hl : lv_has ls 4 [(0, .ref b), (1, .ref (q 0)), (2, .ref (r 0)), (3, .int 0)]) : W p l e room_1 s m #[Value.ref b] below meth c H locs 305 4995 (lw_Z below #[Value.ref b] s) (F0 m 958 ls []) := by
  obtain ⟨hx, hb, hr, hml, hown, hts, hX, hbl, hlocks, hgv⟩ := id C0
  have hown : s.vm.findClass RL = some m.cls := hown
  have hA : ∀ q : Nat, s.heap.size ≤ q → A q := by rw [hAe]; exact fun _ h => h
  have hbA : ¬ A b := by rw [hAe]; exact Nat.not_le.mpr hbl
  refine lv_aload_n hx hb dL_law_958 rfl (lv_at hl 1 rfl) ?_
  have hPc := hP.sub (ws' := [((q 0), .inr (11, [.ref (q 1), .ref (q 2), .ref (q 3), .ref (q 4), .ref (q 5), .ref (q 6), .ref (q 7), .ref (q 8), .ref (q 9), .ref (q 10), .ref (q 11), .ref (q 12), .ref (q 13), .ref (q 14), .ref (q 15)])), ((q 2), .inr (10, [.ref (q 25), .ref (q 26), .ref (q 27), .ref (q 28), .ref (q 29), .ref (q 30), .ref (q 31), .int 0, .int 0, .int 0, .int 0, .int 0, .int 0, .int 0, .int 0, .int 0]))]) [0, 11] rfl
  have hKc := hK.sub (tys' := []) [] rfl
  refine vp_callSi (va_Run.run (va_runV (As := []) (rest := []) ⟨hx, hb, hml, hown, hts⟩ (f_X11_fails l dC dI ((q 0)) ((q 1)) ((q 2)) ((q 3)) ((q 4)) ((q 5)) ((q 6)) ((q 7)) ((q 8)) ((q 9)) ((q 10)) ((q 11)) ((q 12)) ((q 13)) ((q 14)) ((q 15)) ((q 25)) ((q 26)) ((q 27)) ((q 28)) ((q 29)) ((q 30)) ((q 31))) (cwV 0 hts (gk_V tw_842 tw_843 tw_844 tw_157 wki_f_X11_fails wkg_f_X11_fails) rfl rfl rfl (by decide +kernel) ⟨Nat.le_of_ble_eq_true rfl, Nat.le_of_ble_eq_true rfl⟩) ⟨fun a U g mk q => by obtain ⟨q0, qP, qK⟩ := q; exact ⟨q0, qP, va_K.moved (u := U) (U := U.calling g mk a) (Vm.Alike.refl U.vm) qK⟩, va_recv hKc hPc (ci := 11) (q0 := 0) rfl rfl, fun U hU hW => ⟨rfl, by rw [hU]; exact hPc, va_K.moved hW.alike hKc⟩⟩ rfl rfl hl.1 rfl (lv_room (Nat.le_of_ble_eq_true rfl)) dL_law_959 ⟨Nat.le_of_ble_eq_true rfl, Nat.le_of_ble_eq_true rfl⟩)) (fun oz2 gz1 => ?_)
  obtain rfl := gz1
  refine lv_aload_n hx hb dL_law_962 rfl (lv_at hl 2 rfl) ?_
  have hPc := hP.sub (ws' := [((r 0), .inr (12, [.int 0, .ref (r 1), .ref (r 2), .ref (r 3), .ref (r 4), .ref (r 5), .int 0, .int 0, .int 0, .int 0, .int 0, .long 0, .int 0, .int 0, .int 0, .int (-1), .ref (r 6), .ref (r 7), .ref (r 8), .ref (r 9), .ref (r 10), .ref (r 11), .ref (r 12), .ref (r 13), .int 0, .int 0, .int 0, .ref (r 14), .ref (r 15), .ref (r 16), .ref (r 17), .ref (r 18), .ref (r 19), .ref (r 20), .ref (r 21), .ref (r 22), .ref (r 23), .ref (r 24), .ref (r 25), .ref (r 26), .ref (r 27), .ref (r 28), .ref (r 29), .int 0, .int 0, .int 0, .ref (r 30), .int 0, .int 0, .int 0, .int 0, .int 0, .int 0, .ref (r 31), .int 0, .int 0, .int 0, .ref (r 32), .ref (r 33)])), ((r 6), .inl ((j 4), 5, .inl (fun _ => 0))), ((r 7), .inl ((j 5), 40, .inl (fun _ => 0)))]) [78, 83, 84] rfl
  have hKc := hK.sub (tys' := [((j 4), .int), ((j 5), .int)]) [60, 61] rfl
  have hDc := hD.sub (ws' := [((r 0), .inr (12, [.int 0, .ref (r 1), .ref (r 2), .ref (r 3), .ref (r 4), .ref (r 5), .int 0, .int 0, .int 0, .int 0, .int 0, .long 0, .int 0, .int 0, .int 0, .int (-1), .ref (r 6), .ref (r 7), .ref (r 8), .ref (r 9), .ref (r 10), .ref (r 11), .ref (r 12), .ref (r 13), .int 0, .int 0, .int 0, .ref (r 14), .ref (r 15), .ref (r 16), .ref (r 17), .ref (r 18), .ref (r 19), .ref (r 20), .ref (r 21), .ref (r 22), .ref (r 23), .ref (r 24), .ref (r 25), .ref (r 26), .ref (r 27), .ref (r 28), .ref (r 29), .int 0, .int 0, .int 0, .ref (r 30), .int 0, .int 0, .int 0, .int 0, .int 0, .int 0, .ref (r 31), .int 0, .int 0, .int 0, .ref (r 32), .ref (r 33)])), ((r 6), .inl ((j 4), 5, .inl (fun _ => 0))), ((r 7), .inl ((j 5), 40, .inl (fun _ => 0)))]) [78, 83, 84] (by decide) rfl
  have hFc := va_free (wc := [((r 0), .inr (12, [.int 0, .ref (r 1), .ref (r 2), .ref (r 3), .ref (r 4), .ref (r 5), .int 0, .int 0, .int 0, .int 0, .int 0, .long 0, .int 0, .int 0, .int 0, .int (-1), .ref (r 6), .ref (r 7), .ref (r 8), .ref (r 9), .ref (r 10), .ref (r 11), .ref (r 12), .ref (r 13), .int 0, .int 0, .int 0, .ref (r 14), .ref (r 15), .ref (r 16), .ref (r 17), .ref (r 18), .ref (r 19), .ref (r 20), .ref (r 21), .ref (r 22), .ref (r 23), .ref (r 24), .ref (r 25), .ref (r 26), .ref (r 27), .ref (r 28), .ref (r 29), .int 0, .int 0, .int 0, .ref (r 30), .int 0, .int 0, .int 0, .int 0, .int 0, .int 0, .ref (r 31), .int 0, .int 0, .int 0, .ref (r 32), .ref (r 33)])), ((r 6), .inl ((j 4), 5, .inl (fun _ => 0))), ((r 7), .inl ((j 5), 40, .inl (fun _ => 0)))]) hD hS hA [78, 83, 84] rfl
  refine va_calli (va_runV (As := []) (rest := [.int (-2)]) ⟨hx, hb, hml, hown, hts⟩ (f_X12_fails_ l dC dI H.size ((r 0)) ((r 1)) ((r 2)) ((r 3)) ((r 4)) ((r 5)) ((r 6)) ((r 7)) ((r 8)) ((r 9)) ((r 10)) ((r 11)) ((r 12)) ((r 13)) ((r 14)) ((r 15)) ((r 16)) ((r 17)) ((r 18)) ((r 19)) ((r 20)) ((r 21)) ((r 22)) ((r 23)) ((r 24)) ((r 25)) ((r 26)) ((r 27)) ((r 28)) ((r 29)) ((r 30)) ((r 31)) ((r 32)) ((r 33)) ((j 4)) ((j 5))) (cwV 0 hts (gk_V tw_845 tw_846 tw_847 tw_505 wki_f_X12_fails_ wkg_f_X12_fails_) rfl rfl rfl (by decide +kernel) ⟨Nat.le_of_ble_eq_true rfl, Nat.le_of_ble_eq_true rfl⟩) ⟨fun a U g mk q => by obtain ⟨q0, q1, qP, qK, qD⟩ := q; exact ⟨q0, q1, qP, va_K.moved (u := U) (U := U.calling g mk a) (Vm.Alike.refl U.vm) qK, qD⟩, va_recv hKc hPc (ci := 12) (q0 := 0) rfl rfl, fun U hU hW => ⟨rfl, by rw [hU], by rw [hU]; exact hPc, va_K.moved hW.alike hKc, hDc.weaken (fun _ _ _ _ => trivial)⟩⟩ rfl rfl hl.1 rfl (lv_room (Nat.le_of_ble_eq_true rfl)) dL_law_963 ⟨Nat.le_of_ble_eq_true rfl, Nat.le_of_ble_eq_true rfl⟩) hS (fun q _ h => hFc q h) hFc (fun oz4 u t H1 locs ht hvm gz3 hB hz1 hk1 hS => ?_)
  generalize H1 = H at hS ⊢
  refine W.widen (k := 305) (n := 4995) (Nat.le_of_ble_eq_true rfl) (Nat.le_of_ble_eq_true rfl) ?_
  obtain rfl := gz3
  refine lv_icmp_eq (tgt := 2293) hx hb dL_law_966 (by decide) (fun cz5 => ?_) (fun cz5 => ?_)
  · skip
    exact law_end (dC := dC) (dI := dI) (Nat.le_of_eq hL6) C0 A hAe (q 0) (r 0) H locs hS ls hl
  · skip
    exact absurd cz5 (by decide)
set_option maxHeartbeats 4000000 in
set_option maxRecDepth 100000 in
theorem law_case_25 {p : Program} {l : Launch} {e : Env} {s : State} {m : MethodId} {below : List Frame} {meth : Method} {c : Code} {dC : Nat → ClassId} {dI : Nat → Nat → Nat} {b L : Nat} {xs : Nat → Int32} (hL6 : L = 6) (C0 : lw_At p s m meth c b L xs) (A : Nat → Prop) (hAe : A = fun q => s.heap.size ≤ q) (q r : Nat → Nat) (k j : Nat → ClassId) (H : Heap) (locs : List Loc) (hK : va_K (dC, dI) vwCl (tX k ++ tM j) s) (hP : va_P (dC, dI) vwCl (wX q k ++ wM r j) H) (hD : va_D A (wX q k ++ wM r j)) (hS : va_S A s.heap H locs) (ls : Array Slot) (hl : lv_has ls 4 [(0, .ref b), (1, .ref (q 0)), (2, .ref (r 0)), (3, .int 0)]) : W p l e room_1 s m #[Value.ref b] below meth c H locs 305 4995 (lw_Z below #[Value.ref b] s) (F0 m 971 ls []) := by
  obtain ⟨hx, hb, hr, hml, hown, hts, hX, hbl, hlocks, hgv⟩ := id C0
  have hown : s.vm.findClass RL = some m.cls := hown
  have hA : ∀ q : Nat, s.heap.size ≤ q → A q := by rw [hAe]; exact fun _ h => h
  have hbA : ¬ A b := by rw [hAe]; exact Nat.not_le.mpr hbl
  refine lv_aload_n hx hb dL_law_971 rfl (lv_at hl 1 rfl) ?_
  refine lv_aload_n hx hb dL_law_972 rfl (lv_at hl 0 rfl) ?_
  refine lv_iload_n hx hb dL_law_973 rfl (lv_at hl 3 rfl) ?_
  refine lv_iconst (v := 1) hx hb dL_law_974 (by decide) ?_
  refine lv_iadd hx hb dL_law_975 ?_
  refine lv_topi (fun xz1 exz1 => ?_)
  obtain rfl : xz1 = 1 := exz1.trans (by decide)
  refine va_sld hx hb hX hbl hbA hS (by rw [hL6]; unfold vp_in; decide) dL_law_976 ?_
  refine W.eq (g2 := F0 m 977 ls [.int (xs 1), .ref (q 0)]) rfl ?_
  have hPc := hP.sub (ws' := [((q 0), .inr (11, [.ref (q 1), .ref (q 2), .ref (q 3), .ref (q 4), .ref (q 5), .ref (q 6), .ref (q 7), .ref (q 8), .ref (q 9), .ref (q 10), .ref (q 11), .ref (q 12), .ref (q 13), .ref (q 14), .ref (q 15)])), ((q 2), .inr (10, [.ref (q 25), .ref (q 26), .ref (q 27), .ref (q 28), .ref (q 29), .ref (q 30), .ref (q 31), .int 0, .int 0, .int 0, .int 0, .int 0, .int 0, .int 0, .int 0, .int 0]))]) [0, 11] rfl
  have hKc := hK.sub (tys' := []) [] rfl
  refine vp_callSi (va_Run.run (va_runV (As := [.int (xs 1)]) (rest := []) ⟨hx, hb, hml, hown, hts⟩ (f_X11_spare l dC dI ((q 0)) ((q 1)) ((q 2)) ((q 3)) ((q 4)) ((q 5)) ((q 6)) ((q 7)) ((q 8)) ((q 9)) ((q 10)) ((q 11)) ((q 12)) ((q 13)) ((q 14)) ((q 15)) ((q 25)) ((q 26)) ((q 27)) ((q 28)) ((q 29)) ((q 30)) ((q 31)) ((xs 1))) (cwV 1 hts (gk_V tw_848 tw_849 tw_850 tw_157 wki_f_X11_spare wkg_f_X11_spare) rfl rfl rfl (by decide +kernel) ⟨Nat.le_of_ble_eq_true rfl, Nat.le_of_ble_eq_true rfl⟩) ⟨fun a U g mk q => by obtain ⟨q0, qP, qK⟩ := q; exact ⟨q0, qP, va_K.moved (u := U) (U := U.calling g mk a) (Vm.Alike.refl U.vm) qK⟩, va_recv hKc hPc (ci := 11) (q0 := 0) rfl rfl, fun U hU hW => ⟨rfl, by rw [hU]; exact hPc, va_K.moved hW.alike hKc⟩⟩ rfl rfl hl.1 rfl (lv_room (Nat.le_of_ble_eq_true rfl)) dL_law_977 ⟨Nat.le_of_ble_eq_true rfl, Nat.le_of_ble_eq_true rfl⟩)) (fun oz3 gz2 => ?_)
  obtain rfl := gz2
  refine lv_aload_n hx hb dL_law_980 rfl (lv_at hl 2 rfl) ?_
  refine lv_aload_n hx hb dL_law_981 rfl (lv_at hl 0 rfl) ?_
  refine lv_iload_n hx hb dL_law_982 rfl (lv_at hl 3 rfl) ?_
  refine lv_iconst (v := 1) hx hb dL_law_983 (by decide) ?_
  refine lv_iadd hx hb dL_law_984 ?_
  refine lv_topi (fun xz4 exz4 => ?_)
  obtain rfl : xz4 = 1 := exz4.trans (by decide)
  refine va_sld hx hb hX hbl hbA hS (by rw [hL6]; unfold vp_in; decide) dL_law_985 ?_
  refine W.eq (g2 := F0 m 986 ls [.int (xs 1), .ref (r 0), .int (-1000)]) rfl ?_
  have hPc := hP.sub (ws' := [((r 0), .inr (12, [.int 0, .ref (r 1), .ref (r 2), .ref (r 3), .ref (r 4), .ref (r 5), .int 0, .int 0, .int 0, .int 0, .int 0, .long 0, .int 0, .int 0, .int 0, .int (-1), .ref (r 6), .ref (r 7), .ref (r 8), .ref (r 9), .ref (r 10), .ref (r 11), .ref (r 12), .ref (r 13), .int 0, .int 0, .int 0, .ref (r 14), .ref (r 15), .ref (r 16), .ref (r 17), .ref (r 18), .ref (r 19), .ref (r 20), .ref (r 21), .ref (r 22), .ref (r 23), .ref (r 24), .ref (r 25), .ref (r 26), .ref (r 27), .ref (r 28), .ref (r 29), .int 0, .int 0, .int 0, .ref (r 30), .int 0, .int 0, .int 0, .int 0, .int 0, .int 0, .ref (r 31), .int 0, .int 0, .int 0, .ref (r 32), .ref (r 33)])), ((r 6), .inl ((j 4), 5, .inl (fun _ => 0))), ((r 7), .inl ((j 5), 40, .inl (fun _ => 0)))]) [78, 83, 84] rfl
  have hKc := hK.sub (tys' := [((j 4), .int), ((j 5), .int)]) [60, 61] rfl
  have hDc := hD.sub (ws' := [((r 0), .inr (12, [.int 0, .ref (r 1), .ref (r 2), .ref (r 3), .ref (r 4), .ref (r 5), .int 0, .int 0, .int 0, .int 0, .int 0, .long 0, .int 0, .int 0, .int 0, .int (-1), .ref (r 6), .ref (r 7), .ref (r 8), .ref (r 9), .ref (r 10), .ref (r 11), .ref (r 12), .ref (r 13), .int 0, .int 0, .int 0, .ref (r 14), .ref (r 15), .ref (r 16), .ref (r 17), .ref (r 18), .ref (r 19), .ref (r 20), .ref (r 21), .ref (r 22), .ref (r 23), .ref (r 24), .ref (r 25), .ref (r 26), .ref (r 27), .ref (r 28), .ref (r 29), .int 0, .int 0, .int 0, .ref (r 30), .int 0, .int 0, .int 0, .int 0, .int 0, .int 0, .ref (r 31), .int 0, .int 0, .int 0, .ref (r 32), .ref (r 33)])), ((r 6), .inl ((j 4), 5, .inl (fun _ => 0))), ((r 7), .inl ((j 5), 40, .inl (fun _ => 0)))]) [78, 83, 84] (by decide) rfl
  have hFc := va_free (wc := [((r 0), .inr (12, [.int 0, .ref (r 1), .ref (r 2), .ref (r 3), .ref (r 4), .ref (r 5), .int 0, .int 0, .int 0, .int 0, .int 0, .long 0, .int 0, .int 0, .int 0, .int (-1), .ref (r 6), .ref (r 7), .ref (r 8), .ref (r 9), .ref (r 10), .ref (r 11), .ref (r 12), .ref (r 13), .int 0, .int 0, .int 0, .ref (r 14), .ref (r 15), .ref (r 16), .ref (r 17), .ref (r 18), .ref (r 19), .ref (r 20), .ref (r 21), .ref (r 22), .ref (r 23), .ref (r 24), .ref (r 25), .ref (r 26), .ref (r 27), .ref (r 28), .ref (r 29), .int 0, .int 0, .int 0, .ref (r 30), .int 0, .int 0, .int 0, .int 0, .int 0, .int 0, .ref (r 31), .int 0, .int 0, .int 0, .ref (r 32), .ref (r 33)])), ((r 6), .inl ((j 4), 5, .inl (fun _ => 0))), ((r 7), .inl ((j 5), 40, .inl (fun _ => 0)))]) hD hS hA [78, 83, 84] rfl
  refine va_calli (va_runV (As := [.int (xs 1)]) (rest := [.int (-1000)]) ⟨hx, hb, hml, hown, hts⟩ (f_X12_spare l dC dI H.size ((r 0)) ((r 1)) ((r 2)) ((r 3)) ((r 4)) ((r 5)) ((r 6)) ((r 7)) ((r 8)) ((r 9)) ((r 10)) ((r 11)) ((r 12)) ((r 13)) ((r 14)) ((r 15)) ((r 16)) ((r 17)) ((r 18)) ((r 19)) ((r 20)) ((r 21)) ((r 22)) ((r 23)) ((r 24)) ((r 25)) ((r 26)) ((r 27)) ((r 28)) ((r 29)) ((r 30)) ((r 31)) ((r 32)) ((r 33)) ((j 4)) ((j 5)) ((xs 1))) (cwV 1 hts (gk_V tw_851 tw_852 tw_853 tw_505 wki_f_X12_spare wkg_f_X12_spare) rfl rfl rfl (by decide +kernel) ⟨Nat.le_of_ble_eq_true rfl, Nat.le_of_ble_eq_true rfl⟩) ⟨fun a U g mk q => by obtain ⟨q0, q1, qP, qK, qD⟩ := q; exact ⟨q0, q1, qP, va_K.moved (u := U) (U := U.calling g mk a) (Vm.Alike.refl U.vm) qK, qD⟩, va_recv hKc hPc (ci := 12) (q0 := 0) rfl rfl, fun U hU hW => ⟨rfl, by rw [hU], by rw [hU]; exact hPc, va_K.moved hW.alike hKc, hDc.weaken (fun _ _ _ _ => trivial)⟩⟩ rfl rfl hl.1 rfl (lv_room (Nat.le_of_ble_eq_true rfl)) dL_law_986 ⟨Nat.le_of_ble_eq_true rfl, Nat.le_of_ble_eq_true rfl⟩) hS (fun q _ h => hFc q h) hFc (fun oz6 u t H1 locs ht hvm gz5 hB hz1 hk1 hS => ?_)
  generalize H1 = H at hS ⊢
  refine W.widen (k := 305) (n := 4995) (Nat.le_of_ble_eq_true rfl) (Nat.le_of_ble_eq_true rfl) ?_
  obtain rfl := gz5
  refine lv_icmp_eq (tgt := 2293) hx hb dL_law_989 (by decide) (fun cz7 => ?_) (fun cz7 => ?_)
  · skip
    exact law_end (dC := dC) (dI := dI) (Nat.le_of_eq hL6) C0 A hAe (q 0) (r 0) H locs hS ls hl
  · skip
    exact absurd cz7 (by decide)
set_option maxHeartbeats 4000000 in
set_option maxRecDepth 100000 in
theorem law_case_26 {p : Program} {l : Launch} {e : Env} {s : State} {m : MethodId} {below : List Frame} {meth : Method} {c : Code} {dC : Nat → ClassId} {dI : Nat → Nat → Nat} {b L : Nat} {xs : Nat → Int32} (hL6 : L = 6) (C0 : lw_At p s m meth c b L xs) (A : Nat → Prop) (hAe : A = fun q => s.heap.size ≤ q) (q r : Nat → Nat) (k j : Nat → ClassId) (H : Heap) (locs : List Loc) (hK : va_K (dC, dI) vwCl (tX k ++ tM j) s) (hP : va_P (dC, dI) vwCl (wX q k ++ wM r j) H) (hD : va_D A (wX q k ++ wM r j)) (hS : va_S A s.heap H locs) (ls : Array Slot) (hl : lv_has ls 4 [(0, .ref b), (1, .ref (q 0)), (2, .ref (r 0)), (3, .int 0)]) : W p l e room_1 s m #[Value.ref b] below meth c H locs 305 4995 (lw_Z below #[Value.ref b] s) (F0 m 994 ls []) := by
  obtain ⟨hx, hb, hr, hml, hown, hts, hX, hbl, hlocks, hgv⟩ := id C0
  have hown : s.vm.findClass RL = some m.cls := hown
  have hA : ∀ q : Nat, s.heap.size ≤ q → A q := by rw [hAe]; exact fun _ h => h
  have hbA : ¬ A b := by rw [hAe]; exact Nat.not_le.mpr hbl
  refine lv_aload_n hx hb dL_law_994 rfl (lv_at hl 1 rfl) ?_
  refine lv_aload_n hx hb dL_law_995 rfl (lv_at hl 0 rfl) ?_
  refine lv_iload_n hx hb dL_law_996 rfl (lv_at hl 3 rfl) ?_
  refine lv_iconst (v := 1) hx hb dL_law_997 (by decide) ?_
  refine lv_iadd hx hb dL_law_998 ?_
  refine lv_topi (fun xz1 exz1 => ?_)
  obtain rfl : xz1 = 1 := exz1.trans (by decide)
  refine va_sld hx hb hX hbl hbA hS (by rw [hL6]; unfold vp_in; decide) dL_law_999 ?_
  refine W.eq (g2 := F0 m 1000 ls [.int (xs 1), .ref (q 0)]) rfl ?_
  have hPc := hP.sub (ws' := [((q 0), .inr (11, [.ref (q 1), .ref (q 2), .ref (q 3), .ref (q 4), .ref (q 5), .ref (q 6), .ref (q 7), .ref (q 8), .ref (q 9), .ref (q 10), .ref (q 11), .ref (q 12), .ref (q 13), .ref (q 14), .ref (q 15)])), ((q 2), .inr (10, [.ref (q 25), .ref (q 26), .ref (q 27), .ref (q 28), .ref (q 29), .ref (q 30), .ref (q 31), .int 0, .int 0, .int 0, .int 0, .int 0, .int 0, .int 0, .int 0, .int 0]))]) [0, 11] rfl
  have hKc := hK.sub (tys' := []) [] rfl
  refine vp_callSi (va_Run.run (va_runV (As := [.int (xs 1)]) (rest := []) ⟨hx, hb, hml, hown, hts⟩ (f_X11_kept l dC dI ((q 0)) ((q 1)) ((q 2)) ((q 3)) ((q 4)) ((q 5)) ((q 6)) ((q 7)) ((q 8)) ((q 9)) ((q 10)) ((q 11)) ((q 12)) ((q 13)) ((q 14)) ((q 15)) ((q 25)) ((q 26)) ((q 27)) ((q 28)) ((q 29)) ((q 30)) ((q 31)) ((xs 1))) (cwV 1 hts (gk_V tw_854 tw_855 tw_856 tw_157 wki_f_X11_kept wkg_f_X11_kept) rfl rfl rfl (by decide +kernel) ⟨Nat.le_of_ble_eq_true rfl, Nat.le_of_ble_eq_true rfl⟩) ⟨fun a U g mk q => by obtain ⟨q0, qP, qK⟩ := q; exact ⟨q0, qP, va_K.moved (u := U) (U := U.calling g mk a) (Vm.Alike.refl U.vm) qK⟩, va_recv hKc hPc (ci := 11) (q0 := 0) rfl rfl, fun U hU hW => ⟨rfl, by rw [hU]; exact hPc, va_K.moved hW.alike hKc⟩⟩ rfl rfl hl.1 rfl (lv_room (Nat.le_of_ble_eq_true rfl)) dL_law_1000 ⟨Nat.le_of_ble_eq_true rfl, Nat.le_of_ble_eq_true rfl⟩)) (fun oz3 gz2 => ?_)
  obtain rfl := gz2
  refine lv_aload_n hx hb dL_law_1003 rfl (lv_at hl 2 rfl) ?_
  refine lv_aload_n hx hb dL_law_1004 rfl (lv_at hl 0 rfl) ?_
  refine lv_iload_n hx hb dL_law_1005 rfl (lv_at hl 3 rfl) ?_
  refine lv_iconst (v := 1) hx hb dL_law_1006 (by decide) ?_
  refine lv_iadd hx hb dL_law_1007 ?_
  refine lv_topi (fun xz4 exz4 => ?_)
  obtain rfl : xz4 = 1 := exz4.trans (by decide)
  refine va_sld hx hb hX hbl hbA hS (by rw [hL6]; unfold vp_in; decide) dL_law_1008 ?_
  refine W.eq (g2 := F0 m 1009 ls [.int (xs 1), .ref (r 0), .int (-2)]) rfl ?_
  have hPc := hP.sub (ws' := [((r 0), .inr (12, [.int 0, .ref (r 1), .ref (r 2), .ref (r 3), .ref (r 4), .ref (r 5), .int 0, .int 0, .int 0, .int 0, .int 0, .long 0, .int 0, .int 0, .int 0, .int (-1), .ref (r 6), .ref (r 7), .ref (r 8), .ref (r 9), .ref (r 10), .ref (r 11), .ref (r 12), .ref (r 13), .int 0, .int 0, .int 0, .ref (r 14), .ref (r 15), .ref (r 16), .ref (r 17), .ref (r 18), .ref (r 19), .ref (r 20), .ref (r 21), .ref (r 22), .ref (r 23), .ref (r 24), .ref (r 25), .ref (r 26), .ref (r 27), .ref (r 28), .ref (r 29), .int 0, .int 0, .int 0, .ref (r 30), .int 0, .int 0, .int 0, .int 0, .int 0, .int 0, .ref (r 31), .int 0, .int 0, .int 0, .ref (r 32), .ref (r 33)])), ((r 6), .inl ((j 4), 5, .inl (fun _ => 0))), ((r 7), .inl ((j 5), 40, .inl (fun _ => 0)))]) [78, 83, 84] rfl
  have hKc := hK.sub (tys' := [((j 4), .int), ((j 5), .int)]) [60, 61] rfl
  have hDc := hD.sub (ws' := [((r 0), .inr (12, [.int 0, .ref (r 1), .ref (r 2), .ref (r 3), .ref (r 4), .ref (r 5), .int 0, .int 0, .int 0, .int 0, .int 0, .long 0, .int 0, .int 0, .int 0, .int (-1), .ref (r 6), .ref (r 7), .ref (r 8), .ref (r 9), .ref (r 10), .ref (r 11), .ref (r 12), .ref (r 13), .int 0, .int 0, .int 0, .ref (r 14), .ref (r 15), .ref (r 16), .ref (r 17), .ref (r 18), .ref (r 19), .ref (r 20), .ref (r 21), .ref (r 22), .ref (r 23), .ref (r 24), .ref (r 25), .ref (r 26), .ref (r 27), .ref (r 28), .ref (r 29), .int 0, .int 0, .int 0, .ref (r 30), .int 0, .int 0, .int 0, .int 0, .int 0, .int 0, .ref (r 31), .int 0, .int 0, .int 0, .ref (r 32), .ref (r 33)])), ((r 6), .inl ((j 4), 5, .inl (fun _ => 0))), ((r 7), .inl ((j 5), 40, .inl (fun _ => 0)))]) [78, 83, 84] (by decide) rfl
  have hFc := va_free (wc := [((r 0), .inr (12, [.int 0, .ref (r 1), .ref (r 2), .ref (r 3), .ref (r 4), .ref (r 5), .int 0, .int 0, .int 0, .int 0, .int 0, .long 0, .int 0, .int 0, .int 0, .int (-1), .ref (r 6), .ref (r 7), .ref (r 8), .ref (r 9), .ref (r 10), .ref (r 11), .ref (r 12), .ref (r 13), .int 0, .int 0, .int 0, .ref (r 14), .ref (r 15), .ref (r 16), .ref (r 17), .ref (r 18), .ref (r 19), .ref (r 20), .ref (r 21), .ref (r 22), .ref (r 23), .ref (r 24), .ref (r 25), .ref (r 26), .ref (r 27), .ref (r 28), .ref (r 29), .int 0, .int 0, .int 0, .ref (r 30), .int 0, .int 0, .int 0, .int 0, .int 0, .int 0, .ref (r 31), .int 0, .int 0, .int 0, .ref (r 32), .ref (r 33)])), ((r 6), .inl ((j 4), 5, .inl (fun _ => 0))), ((r 7), .inl ((j 5), 40, .inl (fun _ => 0)))]) hD hS hA [78, 83, 84] rfl
  refine va_calli (va_runV (As := [.int (xs 1)]) (rest := [.int (-2)]) ⟨hx, hb, hml, hown, hts⟩ (f_X12_kept l dC dI H.size ((r 0)) ((r 1)) ((r 2)) ((r 3)) ((r 4)) ((r 5)) ((r 6)) ((r 7)) ((r 8)) ((r 9)) ((r 10)) ((r 11)) ((r 12)) ((r 13)) ((r 14)) ((r 15)) ((r 16)) ((r 17)) ((r 18)) ((r 19)) ((r 20)) ((r 21)) ((r 22)) ((r 23)) ((r 24)) ((r 25)) ((r 26)) ((r 27)) ((r 28)) ((r 29)) ((r 30)) ((r 31)) ((r 32)) ((r 33)) ((j 4)) ((j 5)) ((xs 1))) (cwV 1 hts (gk_V tw_857 tw_858 tw_859 tw_505 wki_f_X12_kept wkg_f_X12_kept) rfl rfl rfl (by decide +kernel) ⟨Nat.le_of_ble_eq_true rfl, Nat.le_of_ble_eq_true rfl⟩) ⟨fun a U g mk q => by obtain ⟨q0, q1, qP, qK, qD⟩ := q; exact ⟨q0, q1, qP, va_K.moved (u := U) (U := U.calling g mk a) (Vm.Alike.refl U.vm) qK, qD⟩, va_recv hKc hPc (ci := 12) (q0 := 0) rfl rfl, fun U hU hW => ⟨rfl, by rw [hU], by rw [hU]; exact hPc, va_K.moved hW.alike hKc, hDc.weaken (fun _ _ _ _ => trivial)⟩⟩ rfl rfl hl.1 rfl (lv_room (Nat.le_of_ble_eq_true rfl)) dL_law_1009 ⟨Nat.le_of_ble_eq_true rfl, Nat.le_of_ble_eq_true rfl⟩) hS (fun q _ h => hFc q h) hFc (fun oz6 u t H1 locs ht hvm gz5 hB hz1 hk1 hS => ?_)
  generalize H1 = H at hS ⊢
  refine W.widen (k := 305) (n := 4995) (Nat.le_of_ble_eq_true rfl) (Nat.le_of_ble_eq_true rfl) ?_
  obtain rfl := gz5
  refine lv_icmp_eq (tgt := 2293) hx hb dL_law_1012 (by decide) (fun cz7 => ?_) (fun cz7 => ?_)
  · skip
    exact law_end (dC := dC) (dI := dI) (Nat.le_of_eq hL6) C0 A hAe (q 0) (r 0) H locs hS ls hl
  · skip
    exact absurd cz7 (by decide)
set_option maxHeartbeats 4000000 in
set_option maxRecDepth 100000 in
theorem law_case_27 {p : Program} {l : Launch} {e : Env} {s : State} {m : MethodId} {below : List Frame} {meth : Method} {c : Code} {dC : Nat → ClassId} {dI : Nat → Nat → Nat} {b L : Nat} {xs : Nat → Int32} (hL6 : L = 6) (C0 : lw_At p s m meth c b L xs) (A : Nat → Prop) (hAe : A = fun q => s.heap.size ≤ q) (q r : Nat → Nat) (k j : Nat → ClassId) (H : Heap) (locs : List Loc) (hK : va_K (dC, dI) vwCl (tX k ++ tM j) s) (hP : va_P (dC, dI) vwCl (wX q k ++ wM r j) H) (hD : va_D A (wX q k ++ wM r j)) (hS : va_S A s.heap H locs) (ls : Array Slot) (hl : lv_has ls 4 [(0, .ref b), (1, .ref (q 0)), (2, .ref (r 0)), (3, .int 0)]) : W p l e room_1 s m #[Value.ref b] below meth c H locs 305 4995 (lw_Z below #[Value.ref b] s) (F0 m 1017 ls []) := by
  obtain ⟨hx, hb, hr, hml, hown, hts, hX, hbl, hlocks, hgv⟩ := id C0
  have hown : s.vm.findClass RL = some m.cls := hown
  have hA : ∀ q : Nat, s.heap.size ≤ q → A q := by rw [hAe]; exact fun _ h => h
  have hbA : ¬ A b := by rw [hAe]; exact Nat.not_le.mpr hbl
  refine lv_aload_n hx hb dL_law_1017 rfl (lv_at hl 1 rfl) ?_
  refine lv_aload_n hx hb dL_law_1018 rfl (lv_at hl 0 rfl) ?_
  refine lv_iload_n hx hb dL_law_1019 rfl (lv_at hl 3 rfl) ?_
  refine lv_iconst (v := 1) hx hb dL_law_1020 (by decide) ?_
  refine lv_iadd hx hb dL_law_1021 ?_
  refine lv_topi (fun xz1 exz1 => ?_)
  obtain rfl : xz1 = 1 := exz1.trans (by decide)
  refine va_sld hx hb hX hbl hbA hS (by rw [hL6]; unfold vp_in; decide) dL_law_1022 ?_
  refine W.eq (g2 := F0 m 1023 ls [.int (xs 1), .ref (q 0)]) rfl ?_
  refine lv_aload_n hx hb dL_law_1023 rfl (lv_at hl 0 rfl) ?_
  refine lv_iload_n hx hb dL_law_1024 rfl (lv_at hl 3 rfl) ?_
  refine lv_iconst (v := 2) hx hb dL_law_1025 (by decide) ?_
  refine lv_iadd hx hb dL_law_1026 ?_
  refine lv_topi (fun xz2 exz2 => ?_)
  obtain rfl : xz2 = 2 := exz2.trans (by decide)
  refine va_sld hx hb hX hbl hbA hS (by rw [hL6]; unfold vp_in; decide) dL_law_1027 ?_
  refine W.eq (g2 := F0 m 1028 ls [.int (xs 2), .int (xs 1), .ref (q 0)]) rfl ?_
  have hPc := hP.sub (ws' := [((q 0), .inr (11, [.ref (q 1), .ref (q 2), .ref (q 3), .ref (q 4), .ref (q 5), .ref (q 6), .ref (q 7), .ref (q 8), .ref (q 9), .ref (q 10), .ref (q 11), .ref (q 12), .ref (q 13), .ref (q 14), .ref (q 15)])), ((q 2), .inr (10, [.ref (q 25), .ref (q 26), .ref (q 27), .ref (q 28), .ref (q 29), .ref (q 30), .ref (q 31), .int 0, .int 0, .int 0, .int 0, .int 0, .int 0, .int 0, .int 0, .int 0]))]) [0, 11] rfl
  have hKc := hK.sub (tys' := []) [] rfl
  refine vp_callSi (va_Run.run (va_runV (As := [.int (xs 1), .int (xs 2)]) (rest := []) ⟨hx, hb, hml, hown, hts⟩ (f_X11_last l dC dI ((q 0)) ((q 1)) ((q 2)) ((q 3)) ((q 4)) ((q 5)) ((q 6)) ((q 7)) ((q 8)) ((q 9)) ((q 10)) ((q 11)) ((q 12)) ((q 13)) ((q 14)) ((q 15)) ((q 25)) ((q 26)) ((q 27)) ((q 28)) ((q 29)) ((q 30)) ((q 31)) ((xs 1)) ((xs 2))) (cwV 2 hts (gk_V tw_860 tw_861 tw_862 tw_157 wki_f_X11_last wkg_f_X11_last) rfl rfl rfl (by decide +kernel) ⟨Nat.le_of_ble_eq_true rfl, Nat.le_of_ble_eq_true rfl⟩) ⟨fun a U g mk q => by obtain ⟨q0, qP, qK⟩ := q; exact ⟨q0, qP, va_K.moved (u := U) (U := U.calling g mk a) (Vm.Alike.refl U.vm) qK⟩, va_recv hKc hPc (ci := 11) (q0 := 0) rfl rfl, fun U hU hW => ⟨rfl, by rw [hU]; exact hPc, va_K.moved hW.alike hKc⟩⟩ rfl rfl hl.1 rfl (lv_room (Nat.le_of_ble_eq_true rfl)) dL_law_1028 ⟨Nat.le_of_ble_eq_true rfl, Nat.le_of_ble_eq_true rfl⟩)) (fun oz4 gz3 => ?_)
  obtain rfl := gz3
  refine lv_aload_n hx hb dL_law_1031 rfl (lv_at hl 2 rfl) ?_
  refine lv_aload_n hx hb dL_law_1032 rfl (lv_at hl 0 rfl) ?_
  refine lv_iload_n hx hb dL_law_1033 rfl (lv_at hl 3 rfl) ?_
  refine lv_iconst (v := 1) hx hb dL_law_1034 (by decide) ?_
  refine lv_iadd hx hb dL_law_1035 ?_
  refine lv_topi (fun xz5 exz5 => ?_)
  obtain rfl : xz5 = 1 := exz5.trans (by decide)
  refine va_sld hx hb hX hbl hbA hS (by rw [hL6]; unfold vp_in; decide) dL_law_1036 ?_
  refine W.eq (g2 := F0 m 1037 ls [.int (xs 1), .ref (r 0), .int (-2)]) rfl ?_
  refine lv_aload_n hx hb dL_law_1037 rfl (lv_at hl 0 rfl) ?_
  refine lv_iload_n hx hb dL_law_1038 rfl (lv_at hl 3 rfl) ?_
  refine lv_iconst (v := 2) hx hb dL_law_1039 (by decide) ?_
  refine lv_iadd hx hb dL_law_1040 ?_
  refine lv_topi (fun xz6 exz6 => ?_)
  obtain rfl : xz6 = 2 := exz6.trans (by decide)
  refine va_sld hx hb hX hbl hbA hS (by rw [hL6]; unfold vp_in; decide) dL_law_1041 ?_
  refine W.eq (g2 := F0 m 1042 ls [.int (xs 2), .int (xs 1), .ref (r 0), .int (-2)]) rfl ?_
  have hPc := hP.sub (ws' := [((r 0), .inr (12, [.int 0, .ref (r 1), .ref (r 2), .ref (r 3), .ref (r 4), .ref (r 5), .int 0, .int 0, .int 0, .int 0, .int 0, .long 0, .int 0, .int 0, .int 0, .int (-1), .ref (r 6), .ref (r 7), .ref (r 8), .ref (r 9), .ref (r 10), .ref (r 11), .ref (r 12), .ref (r 13), .int 0, .int 0, .int 0, .ref (r 14), .ref (r 15), .ref (r 16), .ref (r 17), .ref (r 18), .ref (r 19), .ref (r 20), .ref (r 21), .ref (r 22), .ref (r 23), .ref (r 24), .ref (r 25), .ref (r 26), .ref (r 27), .ref (r 28), .ref (r 29), .int 0, .int 0, .int 0, .ref (r 30), .int 0, .int 0, .int 0, .int 0, .int 0, .int 0, .ref (r 31), .int 0, .int 0, .int 0, .ref (r 32), .ref (r 33)])), ((r 6), .inl ((j 4), 5, .inl (fun _ => 0))), ((r 7), .inl ((j 5), 40, .inl (fun _ => 0)))]) [78, 83, 84] rfl
  have hKc := hK.sub (tys' := [((j 4), .int), ((j 5), .int)]) [60, 61] rfl
  have hDc := hD.sub (ws' := [((r 0), .inr (12, [.int 0, .ref (r 1), .ref (r 2), .ref (r 3), .ref (r 4), .ref (r 5), .int 0, .int 0, .int 0, .int 0, .int 0, .long 0, .int 0, .int 0, .int 0, .int (-1), .ref (r 6), .ref (r 7), .ref (r 8), .ref (r 9), .ref (r 10), .ref (r 11), .ref (r 12), .ref (r 13), .int 0, .int 0, .int 0, .ref (r 14), .ref (r 15), .ref (r 16), .ref (r 17), .ref (r 18), .ref (r 19), .ref (r 20), .ref (r 21), .ref (r 22), .ref (r 23), .ref (r 24), .ref (r 25), .ref (r 26), .ref (r 27), .ref (r 28), .ref (r 29), .int 0, .int 0, .int 0, .ref (r 30), .int 0, .int 0, .int 0, .int 0, .int 0, .int 0, .ref (r 31), .int 0, .int 0, .int 0, .ref (r 32), .ref (r 33)])), ((r 6), .inl ((j 4), 5, .inl (fun _ => 0))), ((r 7), .inl ((j 5), 40, .inl (fun _ => 0)))]) [78, 83, 84] (by decide) rfl
  have hFc := va_free (wc := [((r 0), .inr (12, [.int 0, .ref (r 1), .ref (r 2), .ref (r 3), .ref (r 4), .ref (r 5), .int 0, .int 0, .int 0, .int 0, .int 0, .long 0, .int 0, .int 0, .int 0, .int (-1), .ref (r 6), .ref (r 7), .ref (r 8), .ref (r 9), .ref (r 10), .ref (r 11), .ref (r 12), .ref (r 13), .int 0, .int 0, .int 0, .ref (r 14), .ref (r 15), .ref (r 16), .ref (r 17), .ref (r 18), .ref (r 19), .ref (r 20), .ref (r 21), .ref (r 22), .ref (r 23), .ref (r 24), .ref (r 25), .ref (r 26), .ref (r 27), .ref (r 28), .ref (r 29), .int 0, .int 0, .int 0, .ref (r 30), .int 0, .int 0, .int 0, .int 0, .int 0, .int 0, .ref (r 31), .int 0, .int 0, .int 0, .ref (r 32), .ref (r 33)])), ((r 6), .inl ((j 4), 5, .inl (fun _ => 0))), ((r 7), .inl ((j 5), 40, .inl (fun _ => 0)))]) hD hS hA [78, 83, 84] rfl
  refine va_calli (va_runV (As := [.int (xs 1), .int (xs 2)]) (rest := [.int (-2)]) ⟨hx, hb, hml, hown, hts⟩ (f_X12_last l dC dI H.size ((r 0)) ((r 1)) ((r 2)) ((r 3)) ((r 4)) ((r 5)) ((r 6)) ((r 7)) ((r 8)) ((r 9)) ((r 10)) ((r 11)) ((r 12)) ((r 13)) ((r 14)) ((r 15)) ((r 16)) ((r 17)) ((r 18)) ((r 19)) ((r 20)) ((r 21)) ((r 22)) ((r 23)) ((r 24)) ((r 25)) ((r 26)) ((r 27)) ((r 28)) ((r 29)) ((r 30)) ((r 31)) ((r 32)) ((r 33)) ((j 4)) ((j 5)) ((xs 1)) ((xs 2))) (cwV 2 hts (gk_V tw_863 tw_864 tw_865 tw_505 wki_f_X12_last wkg_f_X12_last) rfl rfl rfl (by decide +kernel) ⟨Nat.le_of_ble_eq_true rfl, Nat.le_of_ble_eq_true rfl⟩) ⟨fun a U g mk q => by obtain ⟨q0, q1, qP, qK, qD⟩ := q; exact ⟨q0, q1, qP, va_K.moved (u := U) (U := U.calling g mk a) (Vm.Alike.refl U.vm) qK, qD⟩, va_recv hKc hPc (ci := 12) (q0 := 0) rfl rfl, fun U hU hW => ⟨rfl, by rw [hU], by rw [hU]; exact hPc, va_K.moved hW.alike hKc, hDc.weaken (fun _ _ _ _ => trivial)⟩⟩ rfl rfl hl.1 rfl (lv_room (Nat.le_of_ble_eq_true rfl)) dL_law_1042 ⟨Nat.le_of_ble_eq_true rfl, Nat.le_of_ble_eq_true rfl⟩) hS (fun q _ h => hFc q h) hFc (fun oz8 u t H1 locs ht hvm gz7 hB hz1 hk1 hS => ?_)
  generalize H1 = H at hS ⊢
  refine W.widen (k := 305) (n := 4995) (Nat.le_of_ble_eq_true rfl) (Nat.le_of_ble_eq_true rfl) ?_
  obtain rfl := gz7
  refine lv_icmp_eq (tgt := 2293) hx hb dL_law_1045 (by decide) (fun cz9 => ?_) (fun cz9 => ?_)
  · skip
    exact law_end (dC := dC) (dI := dI) (Nat.le_of_eq hL6) C0 A hAe (q 0) (r 0) H locs hS ls hl
  · skip
    exact absurd cz9 (by decide)
set_option maxHeartbeats 4000000 in
set_option maxRecDepth 100000 in
theorem law_case_28 {p : Program} {l : Launch} {e : Env} {s : State} {m : MethodId} {below : List Frame} {meth : Method} {c : Code} {dC : Nat → ClassId} {dI : Nat → Nat → Nat} {b L : Nat} {xs : Nat → Int32} (hL6 : L = 6) (C0 : lw_At p s m meth c b L xs) (A : Nat → Prop) (hAe : A = fun q => s.heap.size ≤ q) (q r : Nat → Nat) (k j : Nat → ClassId) (H : Heap) (locs : List Loc) (hK : va_K (dC, dI) vwCl (tX k ++ tM j) s) (hP : va_P (dC, dI) vwCl (wX q k ++ wM r j) H) (hD : va_D A (wX q k ++ wM r j)) (hS : va_S A s.heap H locs) (ls : Array Slot) (hl : lv_has ls 4 [(0, .ref b), (1, .ref (q 0)), (2, .ref (r 0)), (3, .int 0)]) : W p l e room_1 s m #[Value.ref b] below meth c H locs 305 4995 (lw_Z below #[Value.ref b] s) (F0 m 1050 ls []) := by
  obtain ⟨hx, hb, hr, hml, hown, hts, hX, hbl, hlocks, hgv⟩ := id C0
  have hown : s.vm.findClass RL = some m.cls := hown
  have hA : ∀ q : Nat, s.heap.size ≤ q → A q := by rw [hAe]; exact fun _ h => h
  have hbA : ¬ A b := by rw [hAe]; exact Nat.not_le.mpr hbl
  refine lv_aload_n hx hb dL_law_1050 rfl (lv_at hl 1 rfl) ?_
  refine lv_aload_n hx hb dL_law_1051 rfl (lv_at hl 0 rfl) ?_
  refine lv_iload_n hx hb dL_law_1052 rfl (lv_at hl 3 rfl) ?_
  refine lv_iconst (v := 1) hx hb dL_law_1053 (by decide) ?_
  refine lv_iadd hx hb dL_law_1054 ?_
  refine lv_topi (fun xz1 exz1 => ?_)
  obtain rfl : xz1 = 1 := exz1.trans (by decide)
  refine va_sld hx hb hX hbl hbA hS (by rw [hL6]; unfold vp_in; decide) dL_law_1055 ?_
  refine W.eq (g2 := F0 m 1056 ls [.int (xs 1), .ref (q 0)]) rfl ?_
  have hPc := hP.sub (ws' := [((q 0), .inr (11, [.ref (q 1), .ref (q 2), .ref (q 3), .ref (q 4), .ref (q 5), .ref (q 6), .ref (q 7), .ref (q 8), .ref (q 9), .ref (q 10), .ref (q 11), .ref (q 12), .ref (q 13), .ref (q 14), .ref (q 15)])), ((q 2), .inr (10, [.ref (q 25), .ref (q 26), .ref (q 27), .ref (q 28), .ref (q 29), .ref (q 30), .ref (q 31), .int 0, .int 0, .int 0, .int 0, .int 0, .int 0, .int 0, .int 0, .int 0]))]) [0, 11] rfl
  have hKc := hK.sub (tys' := []) [] rfl
  refine vp_callSi (va_Run.run (va_runV (As := [.int (xs 1)]) (rest := []) ⟨hx, hb, hml, hown, hts⟩ (f_X11_broken l dC dI ((q 0)) ((q 1)) ((q 2)) ((q 3)) ((q 4)) ((q 5)) ((q 6)) ((q 7)) ((q 8)) ((q 9)) ((q 10)) ((q 11)) ((q 12)) ((q 13)) ((q 14)) ((q 15)) ((q 25)) ((q 26)) ((q 27)) ((q 28)) ((q 29)) ((q 30)) ((q 31)) ((xs 1))) (cwV 1 hts (gk_V tw_866 tw_867 tw_868 tw_157 wki_f_X11_broken wkg_f_X11_broken) rfl rfl rfl (by decide +kernel) ⟨Nat.le_of_ble_eq_true rfl, Nat.le_of_ble_eq_true rfl⟩) ⟨fun a U g mk q => by obtain ⟨q0, qP, qK⟩ := q; exact ⟨q0, qP, va_K.moved (u := U) (U := U.calling g mk a) (Vm.Alike.refl U.vm) qK⟩, va_recv hKc hPc (ci := 11) (q0 := 0) rfl rfl, fun U hU hW => ⟨rfl, by rw [hU]; exact hPc, va_K.moved hW.alike hKc⟩⟩ rfl rfl hl.1 rfl (lv_room (Nat.le_of_ble_eq_true rfl)) dL_law_1056 ⟨Nat.le_of_ble_eq_true rfl, Nat.le_of_ble_eq_true rfl⟩)) (fun oz3 gz2 => ?_)
  obtain rfl := gz2
  refine lv_aload_n hx hb dL_law_1059 rfl (lv_at hl 2 rfl) ?_
  refine lv_aload_n hx hb dL_law_1060 rfl (lv_at hl 0 rfl) ?_
  refine lv_iload_n hx hb dL_law_1061 rfl (lv_at hl 3 rfl) ?_
  refine lv_iconst (v := 1) hx hb dL_law_1062 (by decide) ?_
  refine lv_iadd hx hb dL_law_1063 ?_
  refine lv_topi (fun xz4 exz4 => ?_)
  obtain rfl : xz4 = 1 := exz4.trans (by decide)
  refine va_sld hx hb hX hbl hbA hS (by rw [hL6]; unfold vp_in; decide) dL_law_1064 ?_
  refine W.eq (g2 := F0 m 1065 ls [.int (xs 1), .ref (r 0), .int (-2)]) rfl ?_
  have hPc := hP.sub (ws' := [((r 0), .inr (12, [.int 0, .ref (r 1), .ref (r 2), .ref (r 3), .ref (r 4), .ref (r 5), .int 0, .int 0, .int 0, .int 0, .int 0, .long 0, .int 0, .int 0, .int 0, .int (-1), .ref (r 6), .ref (r 7), .ref (r 8), .ref (r 9), .ref (r 10), .ref (r 11), .ref (r 12), .ref (r 13), .int 0, .int 0, .int 0, .ref (r 14), .ref (r 15), .ref (r 16), .ref (r 17), .ref (r 18), .ref (r 19), .ref (r 20), .ref (r 21), .ref (r 22), .ref (r 23), .ref (r 24), .ref (r 25), .ref (r 26), .ref (r 27), .ref (r 28), .ref (r 29), .int 0, .int 0, .int 0, .ref (r 30), .int 0, .int 0, .int 0, .int 0, .int 0, .int 0, .ref (r 31), .int 0, .int 0, .int 0, .ref (r 32), .ref (r 33)])), ((r 6), .inl ((j 4), 5, .inl (fun _ => 0))), ((r 7), .inl ((j 5), 40, .inl (fun _ => 0)))]) [78, 83, 84] rfl
  have hKc := hK.sub (tys' := [((j 4), .int), ((j 5), .int)]) [60, 61] rfl
  have hDc := hD.sub (ws' := [((r 0), .inr (12, [.int 0, .ref (r 1), .ref (r 2), .ref (r 3), .ref (r 4), .ref (r 5), .int 0, .int 0, .int 0, .int 0, .int 0, .long 0, .int 0, .int 0, .int 0, .int (-1), .ref (r 6), .ref (r 7), .ref (r 8), .ref (r 9), .ref (r 10), .ref (r 11), .ref (r 12), .ref (r 13), .int 0, .int 0, .int 0, .ref (r 14), .ref (r 15), .ref (r 16), .ref (r 17), .ref (r 18), .ref (r 19), .ref (r 20), .ref (r 21), .ref (r 22), .ref (r 23), .ref (r 24), .ref (r 25), .ref (r 26), .ref (r 27), .ref (r 28), .ref (r 29), .int 0, .int 0, .int 0, .ref (r 30), .int 0, .int 0, .int 0, .int 0, .int 0, .int 0, .ref (r 31), .int 0, .int 0, .int 0, .ref (r 32), .ref (r 33)])), ((r 6), .inl ((j 4), 5, .inl (fun _ => 0))), ((r 7), .inl ((j 5), 40, .inl (fun _ => 0)))]) [78, 83, 84] (by decide) rfl
  have hFc := va_free (wc := [((r 0), .inr (12, [.int 0, .ref (r 1), .ref (r 2), .ref (r 3), .ref (r 4), .ref (r 5), .int 0, .int 0, .int 0, .int 0, .int 0, .long 0, .int 0, .int 0, .int 0, .int (-1), .ref (r 6), .ref (r 7), .ref (r 8), .ref (r 9), .ref (r 10), .ref (r 11), .ref (r 12), .ref (r 13), .int 0, .int 0, .int 0, .ref (r 14), .ref (r 15), .ref (r 16), .ref (r 17), .ref (r 18), .ref (r 19), .ref (r 20), .ref (r 21), .ref (r 22), .ref (r 23), .ref (r 24), .ref (r 25), .ref (r 26), .ref (r 27), .ref (r 28), .ref (r 29), .int 0, .int 0, .int 0, .ref (r 30), .int 0, .int 0, .int 0, .int 0, .int 0, .int 0, .ref (r 31), .int 0, .int 0, .int 0, .ref (r 32), .ref (r 33)])), ((r 6), .inl ((j 4), 5, .inl (fun _ => 0))), ((r 7), .inl ((j 5), 40, .inl (fun _ => 0)))]) hD hS hA [78, 83, 84] rfl
  refine va_calli (va_runV (As := [.int (xs 1)]) (rest := [.int (-2)]) ⟨hx, hb, hml, hown, hts⟩ (f_X12_broken l dC dI H.size ((r 0)) ((r 1)) ((r 2)) ((r 3)) ((r 4)) ((r 5)) ((r 6)) ((r 7)) ((r 8)) ((r 9)) ((r 10)) ((r 11)) ((r 12)) ((r 13)) ((r 14)) ((r 15)) ((r 16)) ((r 17)) ((r 18)) ((r 19)) ((r 20)) ((r 21)) ((r 22)) ((r 23)) ((r 24)) ((r 25)) ((r 26)) ((r 27)) ((r 28)) ((r 29)) ((r 30)) ((r 31)) ((r 32)) ((r 33)) ((j 4)) ((j 5)) ((xs 1))) (cwV 1 hts (gk_V tw_869 tw_870 tw_871 tw_505 wki_f_X12_broken wkg_f_X12_broken) rfl rfl rfl (by decide +kernel) ⟨Nat.le_of_ble_eq_true rfl, Nat.le_of_ble_eq_true rfl⟩) ⟨fun a U g mk q => by obtain ⟨q0, q1, qP, qK, qD⟩ := q; exact ⟨q0, q1, qP, va_K.moved (u := U) (U := U.calling g mk a) (Vm.Alike.refl U.vm) qK, qD⟩, va_recv hKc hPc (ci := 12) (q0 := 0) rfl rfl, fun U hU hW => ⟨rfl, by rw [hU], by rw [hU]; exact hPc, va_K.moved hW.alike hKc, hDc.weaken (fun _ _ _ _ => trivial)⟩⟩ rfl rfl hl.1 rfl (lv_room (Nat.le_of_ble_eq_true rfl)) dL_law_1065 ⟨Nat.le_of_ble_eq_true rfl, Nat.le_of_ble_eq_true rfl⟩) hS (fun q _ h => hFc q h) hFc (fun oz6 u t H1 locs ht hvm gz5 hB hz1 hk1 hS => ?_)
  generalize H1 = H at hS ⊢
  refine W.widen (k := 305) (n := 4995) (Nat.le_of_ble_eq_true rfl) (Nat.le_of_ble_eq_true rfl) ?_
  obtain rfl := gz5
  refine lv_icmp_eq (tgt := 2293) hx hb dL_law_1068 (by decide) (fun cz7 => ?_) (fun cz7 => ?_)
  · skip
    exact law_end (dC := dC) (dI := dI) (Nat.le_of_eq hL6) C0 A hAe (q 0) (r 0) H locs hS ls hl
  · skip
    exact absurd cz7 (by decide)
set_option maxHeartbeats 4000000 in
set_option maxRecDepth 100000 in
theorem law_case_29 {p : Program} {l : Launch} {e : Env} {s : State} {m : MethodId} {below : List Frame} {meth : Method} {c : Code} {dC : Nat → ClassId} {dI : Nat → Nat → Nat} {b L : Nat} {xs : Nat → Int32} (hL6 : L = 6) (C0 : lw_At p s m meth c b L xs) (A : Nat → Prop) (hAe : A = fun q => s.heap.size ≤ q) (q r : Nat → Nat) (k j : Nat → ClassId) (H : Heap) (locs : List Loc) (hK : va_K (dC, dI) vwCl (tX k ++ tM j) s) (hP : va_P (dC, dI) vwCl (wX q k ++ wM r j) H) (hD : va_D A (wX q k ++ wM r j)) (hS : va_S A s.heap H locs) (ls : Array Slot) (hl : lv_has ls 4 [(0, .ref b), (1, .ref (q 0)), (2, .ref (r 0)), (3, .int 0)]) : W p l e room_1 s m #[Value.ref b] below meth c H locs 305 4995 (lw_Z below #[Value.ref b] s) (F0 m 1073 ls []) := by
  obtain ⟨hx, hb, hr, hml, hown, hts, hX, hbl, hlocks, hgv⟩ := id C0
  have hown : s.vm.findClass RL = some m.cls := hown
  have hA : ∀ q : Nat, s.heap.size ≤ q → A q := by rw [hAe]; exact fun _ h => h
  have hbA : ¬ A b := by rw [hAe]; exact Nat.not_le.mpr hbl
  refine lv_aload_n hx hb dL_law_1073 rfl (lv_at hl 1 rfl) ?_
  refine lv_aload_n hx hb dL_law_1074 rfl (lv_at hl 0 rfl) ?_
  refine lv_iload_n hx hb dL_law_1075 rfl (lv_at hl 3 rfl) ?_
  refine lv_iconst (v := 1) hx hb dL_law_1076 (by decide) ?_
  refine lv_iadd hx hb dL_law_1077 ?_
  refine lv_topi (fun xz1 exz1 => ?_)
  obtain rfl : xz1 = 1 := exz1.trans (by decide)
  refine va_sld hx hb hX hbl hbA hS (by rw [hL6]; unfold vp_in; decide) dL_law_1078 ?_
  refine W.eq (g2 := F0 m 1079 ls [.int (xs 1), .ref (q 0)]) rfl ?_
  refine lv_aload_n hx hb dL_law_1079 rfl (lv_at hl 0 rfl) ?_
  refine lv_iload_n hx hb dL_law_1080 rfl (lv_at hl 3 rfl) ?_
  refine lv_iconst (v := 2) hx hb dL_law_1081 (by decide) ?_
  refine lv_iadd hx hb dL_law_1082 ?_
  refine lv_topi (fun xz2 exz2 => ?_)
  obtain rfl : xz2 = 2 := exz2.trans (by decide)
  refine va_sld hx hb hX hbl hbA hS (by rw [hL6]; unfold vp_in; decide) dL_law_1083 ?_
  refine W.eq (g2 := F0 m 1084 ls [.int (xs 2), .int (xs 1), .ref (q 0)]) rfl ?_
  have hPc := hP.sub (ws' := [((q 0), .inr (11, [.ref (q 1), .ref (q 2), .ref (q 3), .ref (q 4), .ref (q 5), .ref (q 6), .ref (q 7), .ref (q 8), .ref (q 9), .ref (q 10), .ref (q 11), .ref (q 12), .ref (q 13), .ref (q 14), .ref (q 15)])), ((q 2), .inr (10, [.ref (q 25), .ref (q 26), .ref (q 27), .ref (q 28), .ref (q 29), .ref (q 30), .ref (q 31), .int 0, .int 0, .int 0, .int 0, .int 0, .int 0, .int 0, .int 0, .int 0]))]) [0, 11] rfl
  have hKc := hK.sub (tys' := []) [] rfl
  refine vp_callSi (va_Run.run (va_runV (As := [.int (xs 1), .int (xs 2)]) (rest := []) ⟨hx, hb, hml, hown, hts⟩ (f_X11_free l dC dI ((q 0)) ((q 1)) ((q 2)) ((q 3)) ((q 4)) ((q 5)) ((q 6)) ((q 7)) ((q 8)) ((q 9)) ((q 10)) ((q 11)) ((q 12)) ((q 13)) ((q 14)) ((q 15)) ((q 25)) ((q 26)) ((q 27)) ((q 28)) ((q 29)) ((q 30)) ((q 31)) ((xs 1)) ((xs 2))) (cwV 2 hts (gk_V tw_872 tw_873 tw_874 tw_157 wki_f_X11_free wkg_f_X11_free) rfl rfl rfl (by decide +kernel) ⟨Nat.le_of_ble_eq_true rfl, Nat.le_of_ble_eq_true rfl⟩) ⟨fun a U g mk q => by obtain ⟨q0, qP, qK⟩ := q; exact ⟨q0, qP, va_K.moved (u := U) (U := U.calling g mk a) (Vm.Alike.refl U.vm) qK⟩, va_recv hKc hPc (ci := 11) (q0 := 0) rfl rfl, fun U hU hW => ⟨rfl, by rw [hU]; exact hPc, va_K.moved hW.alike hKc⟩⟩ rfl rfl hl.1 rfl (lv_room (Nat.le_of_ble_eq_true rfl)) dL_law_1084 ⟨Nat.le_of_ble_eq_true rfl, Nat.le_of_ble_eq_true rfl⟩)) (fun oz4 gz3 => ?_)
  obtain rfl := gz3
  refine lv_aload_n hx hb dL_law_1087 rfl (lv_at hl 2 rfl) ?_
  refine lv_aload_n hx hb dL_law_1088 rfl (lv_at hl 0 rfl) ?_
  refine lv_iload_n hx hb dL_law_1089 rfl (lv_at hl 3 rfl) ?_
  refine lv_iconst (v := 1) hx hb dL_law_1090 (by decide) ?_
  refine lv_iadd hx hb dL_law_1091 ?_
  refine lv_topi (fun xz5 exz5 => ?_)
  obtain rfl : xz5 = 1 := exz5.trans (by decide)
  refine va_sld hx hb hX hbl hbA hS (by rw [hL6]; unfold vp_in; decide) dL_law_1092 ?_
  refine W.eq (g2 := F0 m 1093 ls [.int (xs 1), .ref (r 0), .int (-2)]) rfl ?_
  refine lv_aload_n hx hb dL_law_1093 rfl (lv_at hl 0 rfl) ?_
  refine lv_iload_n hx hb dL_law_1094 rfl (lv_at hl 3 rfl) ?_
  refine lv_iconst (v := 2) hx hb dL_law_1095 (by decide) ?_
  refine lv_iadd hx hb dL_law_1096 ?_
  refine lv_topi (fun xz6 exz6 => ?_)
  obtain rfl : xz6 = 2 := exz6.trans (by decide)
  refine va_sld hx hb hX hbl hbA hS (by rw [hL6]; unfold vp_in; decide) dL_law_1097 ?_
  refine W.eq (g2 := F0 m 1098 ls [.int (xs 2), .int (xs 1), .ref (r 0), .int (-2)]) rfl ?_
  have hPc := hP.sub (ws' := [((r 0), .inr (12, [.int 0, .ref (r 1), .ref (r 2), .ref (r 3), .ref (r 4), .ref (r 5), .int 0, .int 0, .int 0, .int 0, .int 0, .long 0, .int 0, .int 0, .int 0, .int (-1), .ref (r 6), .ref (r 7), .ref (r 8), .ref (r 9), .ref (r 10), .ref (r 11), .ref (r 12), .ref (r 13), .int 0, .int 0, .int 0, .ref (r 14), .ref (r 15), .ref (r 16), .ref (r 17), .ref (r 18), .ref (r 19), .ref (r 20), .ref (r 21), .ref (r 22), .ref (r 23), .ref (r 24), .ref (r 25), .ref (r 26), .ref (r 27), .ref (r 28), .ref (r 29), .int 0, .int 0, .int 0, .ref (r 30), .int 0, .int 0, .int 0, .int 0, .int 0, .int 0, .ref (r 31), .int 0, .int 0, .int 0, .ref (r 32), .ref (r 33)])), ((r 6), .inl ((j 4), 5, .inl (fun _ => 0))), ((r 7), .inl ((j 5), 40, .inl (fun _ => 0)))]) [78, 83, 84] rfl
  have hKc := hK.sub (tys' := [((j 4), .int), ((j 5), .int)]) [60, 61] rfl
  have hDc := hD.sub (ws' := [((r 0), .inr (12, [.int 0, .ref (r 1), .ref (r 2), .ref (r 3), .ref (r 4), .ref (r 5), .int 0, .int 0, .int 0, .int 0, .int 0, .long 0, .int 0, .int 0, .int 0, .int (-1), .ref (r 6), .ref (r 7), .ref (r 8), .ref (r 9), .ref (r 10), .ref (r 11), .ref (r 12), .ref (r 13), .int 0, .int 0, .int 0, .ref (r 14), .ref (r 15), .ref (r 16), .ref (r 17), .ref (r 18), .ref (r 19), .ref (r 20), .ref (r 21), .ref (r 22), .ref (r 23), .ref (r 24), .ref (r 25), .ref (r 26), .ref (r 27), .ref (r 28), .ref (r 29), .int 0, .int 0, .int 0, .ref (r 30), .int 0, .int 0, .int 0, .int 0, .int 0, .int 0, .ref (r 31), .int 0, .int 0, .int 0, .ref (r 32), .ref (r 33)])), ((r 6), .inl ((j 4), 5, .inl (fun _ => 0))), ((r 7), .inl ((j 5), 40, .inl (fun _ => 0)))]) [78, 83, 84] (by decide) rfl
  have hFc := va_free (wc := [((r 0), .inr (12, [.int 0, .ref (r 1), .ref (r 2), .ref (r 3), .ref (r 4), .ref (r 5), .int 0, .int 0, .int 0, .int 0, .int 0, .long 0, .int 0, .int 0, .int 0, .int (-1), .ref (r 6), .ref (r 7), .ref (r 8), .ref (r 9), .ref (r 10), .ref (r 11), .ref (r 12), .ref (r 13), .int 0, .int 0, .int 0, .ref (r 14), .ref (r 15), .ref (r 16), .ref (r 17), .ref (r 18), .ref (r 19), .ref (r 20), .ref (r 21), .ref (r 22), .ref (r 23), .ref (r 24), .ref (r 25), .ref (r 26), .ref (r 27), .ref (r 28), .ref (r 29), .int 0, .int 0, .int 0, .ref (r 30), .int 0, .int 0, .int 0, .int 0, .int 0, .int 0, .ref (r 31), .int 0, .int 0, .int 0, .ref (r 32), .ref (r 33)])), ((r 6), .inl ((j 4), 5, .inl (fun _ => 0))), ((r 7), .inl ((j 5), 40, .inl (fun _ => 0)))]) hD hS hA [78, 83, 84] rfl
  refine va_calli (va_runV (As := [.int (xs 1), .int (xs 2)]) (rest := [.int (-2)]) ⟨hx, hb, hml, hown, hts⟩ (f_X12_free l dC dI H.size ((r 0)) ((r 1)) ((r 2)) ((r 3)) ((r 4)) ((r 5)) ((r 6)) ((r 7)) ((r 8)) ((r 9)) ((r 10)) ((r 11)) ((r 12)) ((r 13)) ((r 14)) ((r 15)) ((r 16)) ((r 17)) ((r 18)) ((r 19)) ((r 20)) ((r 21)) ((r 22)) ((r 23)) ((r 24)) ((r 25)) ((r 26)) ((r 27)) ((r 28)) ((r 29)) ((r 30)) ((r 31)) ((r 32)) ((r 33)) ((j 4)) ((j 5)) ((xs 1)) ((xs 2))) (cwV 2 hts (gk_V tw_875 tw_876 tw_877 tw_505 wki_f_X12_free wkg_f_X12_free) rfl rfl rfl (by decide +kernel) ⟨Nat.le_of_ble_eq_true rfl, Nat.le_of_ble_eq_true rfl⟩) ⟨fun a U g mk q => by obtain ⟨q0, q1, qP, qK, qD⟩ := q; exact ⟨q0, q1, qP, va_K.moved (u := U) (U := U.calling g mk a) (Vm.Alike.refl U.vm) qK, qD⟩, va_recv hKc hPc (ci := 12) (q0 := 0) rfl rfl, fun U hU hW => ⟨rfl, by rw [hU], by rw [hU]; exact hPc, va_K.moved hW.alike hKc, hDc.weaken (fun _ _ _ _ => trivial)⟩⟩ rfl rfl hl.1 rfl (lv_room (Nat.le_of_ble_eq_true rfl)) dL_law_1098 ⟨Nat.le_of_ble_eq_true rfl, Nat.le_of_ble_eq_true rfl⟩) hS (fun q _ h => hFc q h) hFc (fun oz8 u t H1 locs ht hvm gz7 hB hz1 hk1 hS => ?_)
  generalize H1 = H at hS ⊢
  refine W.widen (k := 305) (n := 4995) (Nat.le_of_ble_eq_true rfl) (Nat.le_of_ble_eq_true rfl) ?_
  obtain rfl := gz7
  refine lv_icmp_eq (tgt := 2293) hx hb dL_law_1101 (by decide) (fun cz9 => ?_) (fun cz9 => ?_)
  · skip
    exact law_end (dC := dC) (dI := dI) (Nat.le_of_eq hL6) C0 A hAe (q 0) (r 0) H locs hS ls hl
  · skip
    exact absurd cz9 (by decide)
