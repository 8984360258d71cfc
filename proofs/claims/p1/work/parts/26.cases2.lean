set_option maxHeartbeats 4000000 in
set_option maxRecDepth 100000 in
theorem law_case_64 {p : Program} {l : Launch} {e : Env} {s : State} {m : MethodId} {below : List Frame} {meth : Method} {c : Code} {dC : Nat → ClassId} {dI : Nat → Nat → Nat} {b L : Nat} {xs : Nat → Int32} (hL6 : L = 6) (C0 : lw_At p s m meth c b L xs) (A : Nat → Prop) (hAe : A = fun q => s.heap.size ≤ q) (q r : Nat → Nat) (k j : Nat → ClassId) (H : Heap) (locs : List Loc) (hK : va_K (dC, dI) vwCl (tX k ++ tM j) s) (hP : va_P (dC, dI) vwCl (wX q k ++ wM r j) H) (hD : va_D A (wX q k ++ wM r j)) (hS : va_S A s.heap H locs) (ls : Array Slot) (hl : lv_has ls 4 [(0, .ref b), (1, .ref (q 0)), (2, .ref (r 0)), (3, .int 0)]) : W p l e room_1 s m #[Value.ref b] below meth c H locs 305 4995 (lw_Z below #[Value.ref b] s) (F0 m 1969 ls []) := by
  obtain ⟨hx, hb, hr, hml, hown, hts, hX, hbl, hlocks, hgv⟩ := id C0
  have hown : s.vm.findClass RL = some m.cls := hown
  have hA : ∀ q : Nat, s.heap.size ≤ q → A q := by rw [hAe]; exact fun _ h => h
  have hbA : ¬ A b := by rw [hAe]; exact Nat.not_le.mpr hbl
  refine lv_aload_n hx hb dL_law_1969 rfl (lv_at hl 1 rfl) ?_
  refine lv_aload_n hx hb dL_law_1970 rfl (lv_at hl 0 rfl) ?_
  refine lv_iload_n hx hb dL_law_1971 rfl (lv_at hl 3 rfl) ?_
  refine lv_iconst (v := 1) hx hb dL_law_1972 (by decide) ?_
  refine lv_iadd hx hb dL_law_1973 ?_
  refine lv_topi (fun xz1 exz1 => ?_)
  obtain rfl : xz1 = 1 := exz1.trans (by decide)
  refine va_sld hx hb hX hbl hbA hS (by rw [hL6]; unfold vp_in; decide) dL_law_1974 ?_
  refine W.eq (g2 := F0 m 1975 ls [.int (xs 1), .ref (q 0)]) rfl ?_
  refine lv_aload_n hx hb dL_law_1975 rfl (lv_at hl 0 rfl) ?_
  refine lv_iload_n hx hb dL_law_1976 rfl (lv_at hl 3 rfl) ?_
  refine lv_iconst (v := 2) hx hb dL_law_1977 (by decide) ?_
  refine lv_iadd hx hb dL_law_1978 ?_
  refine lv_topi (fun xz2 exz2 => ?_)
  obtain rfl : xz2 = 2 := exz2.trans (by decide)
  refine va_sld hx hb hX hbl hbA hS (by rw [hL6]; unfold vp_in; decide) dL_law_1979 ?_
  refine W.eq (g2 := F0 m 1980 ls [.int (xs 2), .int (xs 1), .ref (q 0)]) rfl ?_
  refine lv_aload_n hx hb dL_law_1980 rfl (lv_at hl 0 rfl) ?_
  refine lv_iload_n hx hb dL_law_1981 rfl (lv_at hl 3 rfl) ?_
  refine lv_iconst (v := 3) hx hb dL_law_1982 (by decide) ?_
  refine lv_iadd hx hb dL_law_1983 ?_
  refine lv_topi (fun xz3 exz3 => ?_)
  obtain rfl : xz3 = 3 := exz3.trans (by decide)
  refine va_sld hx hb hX hbl hbA hS (by rw [hL6]; unfold vp_in; decide) dL_law_1984 ?_
  refine W.eq (g2 := F0 m 1985 ls [.int (xs 3), .int (xs 2), .int (xs 1), .ref (q 0)]) rfl ?_
  have hPc := hP.sub (ws' := [((q 0), .inr (11, [.ref (q 1), .ref (q 2), .ref (q 3), .ref (q 4), .ref (q 5), .ref (q 6), .ref (q 7), .ref (q 8), .ref (q 9), .ref (q 10), .ref (q 11), .ref (q 12), .ref (q 13), .ref (q 14), .ref (q 15)])), ((q 2), .inr (10, [.ref (q 25), .ref (q 26), .ref (q 27), .ref (q 28), .ref (q 29), .ref (q 30), .ref (q 31), .int 0, .int 0, .int 0, .int 0, .int 0, .int 0, .int 0, .int 0, .int 0]))]) [0, 11] rfl
  have hKc := hK.sub (tys' := []) [] rfl
  refine vp_callSi (va_Run.run (va_runV (As := [.int (xs 1), .int (xs 2), .int (xs 3)]) (rest := []) ⟨hx, hb, hml, hown, hts⟩ (f_X11_luck l dC dI ((q 0)) ((q 1)) ((q 2)) ((q 3)) ((q 4)) ((q 5)) ((q 6)) ((q 7)) ((q 8)) ((q 9)) ((q 10)) ((q 11)) ((q 12)) ((q 13)) ((q 14)) ((q 15)) ((q 25)) ((q 26)) ((q 27)) ((q 28)) ((q 29)) ((q 30)) ((q 31)) ((xs 1)) ((xs 2)) ((xs 3))) (cwV 3 hts (gk_V tw_1082 tw_1083 tw_1084 tw_157 wki_f_X11_luck wkg_f_X11_luck) rfl rfl rfl (by decide +kernel) ⟨Nat.le_of_ble_eq_true rfl, Nat.le_of_ble_eq_true rfl⟩) ⟨fun a U g mk q => by obtain ⟨q0, qP, qK⟩ := q; exact ⟨q0, qP, va_K.moved (u := U) (U := U.calling g mk a) (Vm.Alike.refl U.vm) qK⟩, va_recv hKc hPc (ci := 11) (q0 := 0) rfl rfl, fun U hU hW => ⟨rfl, by rw [hU]; exact hPc, va_K.moved hW.alike hKc⟩⟩ rfl rfl hl.1 rfl (lv_room (Nat.le_of_ble_eq_true rfl)) dL_law_1985 ⟨Nat.le_of_ble_eq_true rfl, Nat.le_of_ble_eq_true rfl⟩)) (fun oz5 gz4 => ?_)
  obtain rfl := gz4
  refine lv_aload_n hx hb dL_law_1988 rfl (lv_at hl 2 rfl) ?_
  refine lv_aload_n hx hb dL_law_1989 rfl (lv_at hl 0 rfl) ?_
  refine lv_iload_n hx hb dL_law_1990 rfl (lv_at hl 3 rfl) ?_
  refine lv_iconst (v := 1) hx hb dL_law_1991 (by decide) ?_
  refine lv_iadd hx hb dL_law_1992 ?_
  refine lv_topi (fun xz6 exz6 => ?_)
  obtain rfl : xz6 = 1 := exz6.trans (by decide)
  refine va_sld hx hb hX hbl hbA hS (by rw [hL6]; unfold vp_in; decide) dL_law_1993 ?_
  refine W.eq (g2 := F0 m 1994 ls [.int (xs 1), .ref (r 0), .int (-2)]) rfl ?_
  refine lv_aload_n hx hb dL_law_1994 rfl (lv_at hl 0 rfl) ?_
  refine lv_iload_n hx hb dL_law_1995 rfl (lv_at hl 3 rfl) ?_
  refine lv_iconst (v := 2) hx hb dL_law_1996 (by decide) ?_
  refine lv_iadd hx hb dL_law_1997 ?_
  refine lv_topi (fun xz7 exz7 => ?_)
  obtain rfl : xz7 = 2 := exz7.trans (by decide)
  refine va_sld hx hb hX hbl hbA hS (by rw [hL6]; unfold vp_in; decide) dL_law_1998 ?_
  refine W.eq (g2 := F0 m 1999 ls [.int (xs 2), .int (xs 1), .ref (r 0), .int (-2)]) rfl ?_
  refine lv_aload_n hx hb dL_law_1999 rfl (lv_at hl 0 rfl) ?_
  refine lv_iload_n hx hb dL_law_2000 rfl (lv_at hl 3 rfl) ?_
  refine lv_iconst (v := 3) hx hb dL_law_2001 (by decide) ?_
  refine lv_iadd hx hb dL_law_2002 ?_
  refine lv_topi (fun xz8 exz8 => ?_)
  obtain rfl : xz8 = 3 := exz8.trans (by decide)
  refine va_sld hx hb hX hbl hbA hS (by rw [hL6]; unfold vp_in; decide) dL_law_2003 ?_
  refine W.eq (g2 := F0 m 2004 ls [.int (xs 3), .int (xs 2), .int (xs 1), .ref (r 0), .int (-2)]) rfl ?_
  have hPc := hP.sub (ws' := [((r 0), .inr (12, [.int 0, .ref (r 1), .ref (r 2), .ref (r 3), .ref (r 4), .ref (r 5), .int 0, .int 0, .int 0, .int 0, .int 0, .long 0, .int 0, .int 0, .int 0, .int (-1), .ref (r 6), .ref (r 7), .ref (r 8), .ref (r 9), .ref (r 10), .ref (r 11), .ref (r 12), .ref (r 13), .int 0, .int 0, .int 0, .ref (r 14), .ref (r 15), .ref (r 16), .ref (r 17), .ref (r 18), .ref (r 19), .ref (r 20), .ref (r 21), .ref (r 22), .ref (r 23), .ref (r 24), .ref (r 25), .ref (r 26), .ref (r 27), .ref (r 28), .ref (r 29), .int 0, .int 0, .int 0, .ref (r 30), .int 0, .int 0, .int 0, .int 0, .int 0, .int 0, .ref (r 31), .int 0, .int 0, .int 0, .ref (r 32), .ref (r 33)])), ((r 6), .inl ((j 4), 5, .inl (fun _ => 0))), ((r 7), .inl ((j 5), 40, .inl (fun _ => 0)))]) [78, 83, 84] rfl
  have hKc := hK.sub (tys' := [((j 4), .int), ((j 5), .int)]) [60, 61] rfl
  have hDc := hD.sub (ws' := [((r 0), .inr (12, [.int 0, .ref (r 1), .ref (r 2), .ref (r 3), .ref (r 4), .ref (r 5), .int 0, .int 0, .int 0, .int 0, .int 0, .long 0, .int 0, .int 0, .int 0, .int (-1), .ref (r 6), .ref (r 7), .ref (r 8), .ref (r 9), .ref (r 10), .ref (r 11), .ref (r 12), .ref (r 13), .int 0, .int 0, .int 0, .ref (r 14), .ref (r 15), .ref (r 16), .ref (r 17), .ref (r 18), .ref (r 19), .ref (r 20), .ref (r 21), .ref (r 22), .ref (r 23), .ref (r 24), .ref (r 25), .ref (r 26), .ref (r 27), .ref (r 28), .ref (r 29), .int 0, .int 0, .int 0, .ref (r 30), .int 0, .int 0, .int 0, .int 0, .int 0, .int 0, .ref (r 31), .int 0, .int 0, .int 0, .ref (r 32), .ref (r 33)])), ((r 6), .inl ((j 4), 5, .inl (fun _ => 0))), ((r 7), .inl ((j 5), 40, .inl (fun _ => 0)))]) [78, 83, 84] (by decide) rfl
  have hFc := va_free (wc := [((r 0), .inr (12, [.int 0, .ref (r 1), .ref (r 2), .ref (r 3), .ref (r 4), .ref (r 5), .int 0, .int 0, .int 0, .int 0, .int 0, .long 0, .int 0, .int 0, .int 0, .int (-1), .ref (r 6), .ref (r 7), .ref (r 8), .ref (r 9), .ref (r 10), .ref (r 11), .ref (r 12), .ref (r 13), .int 0, .int 0, .int 0, .ref (r 14), .ref (r 15), .ref (r 16), .ref (r 17), .ref (r 18), .ref (r 19), .ref (r 20), .ref (r 21), .ref (r 22), .ref (r 23), .ref (r 24), .ref (r 25), .ref (r 26), .ref (r 27), .ref (r 28), .ref (r 29), .int 0, .int 0, .int 0, .ref (r 30), .int 0, .int 0, .int 0, .int 0, .int 0, .int 0, .ref (r 31), .int 0, .int 0, .int 0, .ref (r 32), .ref (r 33)])), ((r 6), .inl ((j 4), 5, .inl (fun _ => 0))), ((r 7), .inl ((j 5), 40, .inl (fun _ => 0)))]) hD hS hA [78, 83, 84] rfl
  refine va_calli (va_runV (As := [.int (xs 1), .int (xs 2), .int (xs 3)]) (rest := [.int (-2)]) ⟨hx, hb, hml, hown, hts⟩ (f_X12_luck l dC dI H.size ((r 0)) ((r 1)) ((r 2)) ((r 3)) ((r 4)) ((r 5)) ((r 6)) ((r 7)) ((r 8)) ((r 9)) ((r 10)) ((r 11)) ((r 12)) ((r 13)) ((r 14)) ((r 15)) ((r 16)) ((r 17)) ((r 18)) ((r 19)) ((r 20)) ((r 21)) ((r 22)) ((r 23)) ((r 24)) ((r 25)) ((r 26)) ((r 27)) ((r 28)) ((r 29)) ((r 30)) ((r 31)) ((r 32)) ((r 33)) ((j 4)) ((j 5)) ((xs 1)) ((xs 2)) ((xs 3))) (cwV 3 hts (gk_V tw_1085 tw_1086 tw_1087 tw_505 wki_f_X12_luck wkg_f_X12_luck) rfl rfl rfl (by decide +kernel) ⟨Nat.le_of_ble_eq_true rfl, Nat.le_of_ble_eq_true rfl⟩) ⟨fun a U g mk q => by obtain ⟨q0, q1, qP, qK, qD⟩ := q; exact ⟨q0, q1, qP, va_K.moved (u := U) (U := U.calling g mk a) (Vm.Alike.refl U.vm) qK, qD⟩, va_recv hKc hPc (ci := 12) (q0 := 0) rfl rfl, fun U hU hW => ⟨rfl, by rw [hU], by rw [hU]; exact hPc, va_K.moved hW.alike hKc, hDc.weaken (fun _ _ _ _ => trivial)⟩⟩ rfl rfl hl.1 rfl (lv_room (Nat.le_of_ble_eq_true rfl)) dL_law_2004 ⟨Nat.le_of_ble_eq_true rfl, Nat.le_of_ble_eq_true rfl⟩) hS (fun q _ h => hFc q h) hFc (fun oz10 u t H1 locs ht hvm gz9 hB hz1 hk1 hS => ?_)
  generalize H1 = H at hS ⊢
  refine W.widen (k := 305) (n := 4995) (Nat.le_of_ble_eq_true rfl) (Nat.le_of_ble_eq_true rfl) ?_
  obtain rfl := gz9
  refine lv_icmp_eq (tgt := 2293) hx hb dL_law_2007 (by decide) (fun cz11 => ?_) (fun cz11 => ?_)
  · skip
    exact law_end (dC := dC) (dI := dI) (Nat.le_of_eq hL6) C0 A hAe (q 0) (r 0) H locs hS ls hl
  · skip
    exact absurd cz11 (by decide)
set_option maxHeartbeats 4000000 in
set_option maxRecDepth 100000 in
theorem law_case_65 {p : Program} {l : Launch} {e : Env} {s : State} {m : MethodId} {below : List Frame} {meth : Method} {c : Code} {dC : Nat → ClassId} {dI : Nat → Nat → Nat} {b L : Nat} {xs : Nat → Int32} (hL6 : L = 6) (C0 : lw_At p s m meth c b L xs) (A : Nat → Prop) (hAe : A = fun q => s.heap.size ≤ q) (q r : Nat → Nat) (k j : Nat → ClassId) (H : Heap) (locs : List Loc) (hK : va_K (dC, dI) vwCl (tX k ++ tM j) s) (hP : va_P (dC, dI) vwCl (wX q k ++ wM r j) H) (hD : va_D A (wX q k ++ wM r j)) (hS : va_S A s.heap H locs) (ls : Array Slot) (hl : lv_has ls 4 [(0, .ref b), (1, .ref (q 0)), (2, .ref (r 0)), (3, .int 0)]) : W p l e room_1 s m #[Value.ref b] below meth c H locs 305 4995 (lw_Z below #[Value.ref b] s) (F0 m 2012 ls []) := by
  obtain ⟨hx, hb, hr, hml, hown, hts, hX, hbl, hlocks, hgv⟩ := id C0
  have hown : s.vm.findClass RL = some m.cls := hown
  have hA : ∀ q : Nat, s.heap.size ≤ q → A q := by rw [hAe]; exact fun _ h => h
  have hbA : ¬ A b := by rw [hAe]; exact Nat.not_le.mpr hbl
  refine lv_aload_n hx hb dL_law_2012 rfl (lv_at hl 1 rfl) ?_
  refine lv_aload_n hx hb dL_law_2013 rfl (lv_at hl 0 rfl) ?_
  refine lv_iload_n hx hb dL_law_2014 rfl (lv_at hl 3 rfl) ?_
  refine lv_iconst (v := 1) hx hb dL_law_2015 (by decide) ?_
  refine lv_iadd hx hb dL_law_2016 ?_
  refine lv_topi (fun xz1 exz1 => ?_)
  obtain rfl : xz1 = 1 := exz1.trans (by decide)
  refine va_sld hx hb hX hbl hbA hS (by rw [hL6]; unfold vp_in; decide) dL_law_2017 ?_
  refine W.eq (g2 := F0 m 2018 ls [.int (xs 1), .ref (q 0)]) rfl ?_
  refine lv_aload_n hx hb dL_law_2018 rfl (lv_at hl 0 rfl) ?_
  refine lv_iload_n hx hb dL_law_2019 rfl (lv_at hl 3 rfl) ?_
  refine lv_iconst (v := 2) hx hb dL_law_2020 (by decide) ?_
  refine lv_iadd hx hb dL_law_2021 ?_
  refine lv_topi (fun xz2 exz2 => ?_)
  obtain rfl : xz2 = 2 := exz2.trans (by decide)
  refine va_sld hx hb hX hbl hbA hS (by rw [hL6]; unfold vp_in; decide) dL_law_2022 ?_
  refine W.eq (g2 := F0 m 2023 ls [.int (xs 2), .int (xs 1), .ref (q 0)]) rfl ?_
  have hPc := hP.sub (ws' := [((q 0), .inr (11, [.ref (q 1), .ref (q 2), .ref (q 3), .ref (q 4), .ref (q 5), .ref (q 6), .ref (q 7), .ref (q 8), .ref (q 9), .ref (q 10), .ref (q 11), .ref (q 12), .ref (q 13), .ref (q 14), .ref (q 15)])), ((q 2), .inr (10, [.ref (q 25), .ref (q 26), .ref (q 27), .ref (q 28), .ref (q 29), .ref (q 30), .ref (q 31), .int 0, .int 0, .int 0, .int 0, .int 0, .int 0, .int 0, .int 0, .int 0]))]) [0, 11] rfl
  have hKc := hK.sub (tys' := []) [] rfl
  refine vp_callSi (va_Run.run (va_runV (As := [.int (xs 1), .int (xs 2)]) (rest := []) ⟨hx, hb, hml, hown, hts⟩ (f_X11_rate l dC dI ((q 0)) ((q 1)) ((q 2)) ((q 3)) ((q 4)) ((q 5)) ((q 6)) ((q 7)) ((q 8)) ((q 9)) ((q 10)) ((q 11)) ((q 12)) ((q 13)) ((q 14)) ((q 15)) ((q 25)) ((q 26)) ((q 27)) ((q 28)) ((q 29)) ((q 30)) ((q 31)) ((xs 1)) ((xs 2))) (cwV 2 hts (gk_V tw_1088 tw_1089 tw_1090 tw_157 wki_f_X11_rate wkg_f_X11_rate) rfl rfl rfl (by decide +kernel) ⟨Nat.le_of_ble_eq_true rfl, Nat.le_of_ble_eq_true rfl⟩) ⟨fun a U g mk q => by obtain ⟨q0, qP, qK⟩ := q; exact ⟨q0, qP, va_K.moved (u := U) (U := U.calling g mk a) (Vm.Alike.refl U.vm) qK⟩, va_recv hKc hPc (ci := 11) (q0 := 0) rfl rfl, fun U hU hW => ⟨rfl, by rw [hU]; exact hPc, va_K.moved hW.alike hKc⟩⟩ rfl rfl hl.1 rfl (lv_room (Nat.le_of_ble_eq_true rfl)) dL_law_2023 ⟨Nat.le_of_ble_eq_true rfl, Nat.le_of_ble_eq_true rfl⟩)) (fun oz4 gz3 => ?_)
  obtain rfl := gz3
  refine lv_aload_n hx hb dL_law_2026 rfl (lv_at hl 2 rfl) ?_
  refine lv_aload_n hx hb dL_law_2027 rfl (lv_at hl 0 rfl) ?_
  refine lv_iload_n hx hb dL_law_2028 rfl (lv_at hl 3 rfl) ?_
  refine lv_iconst (v := 1) hx hb dL_law_2029 (by decide) ?_
  refine lv_iadd hx hb dL_law_2030 ?_
  refine lv_topi (fun xz5 exz5 => ?_)
  obtain rfl : xz5 = 1 := exz5.trans (by decide)
  refine va_sld hx hb hX hbl hbA hS (by rw [hL6]; unfold vp_in; decide) dL_law_2031 ?_
  refine W.eq (g2 := F0 m 2032 ls [.int (xs 1), .ref (r 0), .int (-2)]) rfl ?_
  refine lv_aload_n hx hb dL_law_2032 rfl (lv_at hl 0 rfl) ?_
  refine lv_iload_n hx hb dL_law_2033 rfl (lv_at hl 3 rfl) ?_
  refine lv_iconst (v := 2) hx hb dL_law_2034 (by decide) ?_
  refine lv_iadd hx hb dL_law_2035 ?_
  refine lv_topi (fun xz6 exz6 => ?_)
  obtain rfl : xz6 = 2 := exz6.trans (by decide)
  refine va_sld hx hb hX hbl hbA hS (by rw [hL6]; unfold vp_in; decide) dL_law_2036 ?_
  refine W.eq (g2 := F0 m 2037 ls [.int (xs 2), .int (xs 1), .ref (r 0), .int (-2)]) rfl ?_
  have hPc := hP.sub (ws' := [((r 0), .inr (12, [.int 0, .ref (r 1), .ref (r 2), .ref (r 3), .ref (r 4), .ref (r 5), .int 0, .int 0, .int 0, .int 0, .int 0, .long 0, .int 0, .int 0, .int 0, .int (-1), .ref (r 6), .ref (r 7), .ref (r 8), .ref (r 9), .ref (r 10), .ref (r 11), .ref (r 12), .ref (r 13), .int 0, .int 0, .int 0, .ref (r 14), .ref (r 15), .ref (r 16), .ref (r 17), .ref (r 18), .ref (r 19), .ref (r 20), .ref (r 21), .ref (r 22), .ref (r 23), .ref (r 24), .ref (r 25), .ref (r 26), .ref (r 27), .ref (r 28), .ref (r 29), .int 0, .int 0, .int 0, .ref (r 30), .int 0, .int 0, .int 0, .int 0, .int 0, .int 0, .ref (r 31), .int 0, .int 0, .int 0, .ref (r 32), .ref (r 33)])), ((r 6), .inl ((j 4), 5, .inl (fun _ => 0))), ((r 7), .inl ((j 5), 40, .inl (fun _ => 0)))]) [78, 83, 84] rfl
  have hKc := hK.sub (tys' := [((j 4), .int), ((j 5), .int)]) [60, 61] rfl
  have hDc := hD.sub (ws' := [((r 0), .inr (12, [.int 0, .ref (r 1), .ref (r 2), .ref (r 3), .ref (r 4), .ref (r 5), .int 0, .int 0, .int 0, .int 0, .int 0, .long 0, .int 0, .int 0, .int 0, .int (-1), .ref (r 6), .ref (r 7), .ref (r 8), .ref (r 9), .ref (r 10), .ref (r 11), .ref (r 12), .ref (r 13), .int 0, .int 0, .int 0, .ref (r 14), .ref (r 15), .ref (r 16), .ref (r 17), .ref (r 18), .ref (r 19), .ref (r 20), .ref (r 21), .ref (r 22), .ref (r 23), .ref (r 24), .ref (r 25), .ref (r 26), .ref (r 27), .ref (r 28), .ref (r 29), .int 0, .int 0, .int 0, .ref (r 30), .int 0, .int 0, .int 0, .int 0, .int 0, .int 0, .ref (r 31), .int 0, .int 0, .int 0, .ref (r 32), .ref (r 33)])), ((r 6), .inl ((j 4), 5, .inl (fun _ => 0))), ((r 7), .inl ((j 5), 40, .inl (fun _ => 0)))]) [78, 83, 84] (by decide) rfl
  have hFc := va_free (wc := [((r 0), .inr (12, [.int 0, .ref (r 1), .ref (r 2), .ref (r 3), .ref (r 4), .ref (r 5), .int 0, .int 0, .int 0, .int 0, .int 0, .long 0, .int 0, .int 0, .int 0, .int (-1), .ref (r 6), .ref (r 7), .ref (r 8), .ref (r 9), .ref (r 10), .ref (r 11), .ref (r 12), .ref (r 13), .int 0, .int 0, .int 0, .ref (r 14), .ref (r 15), .ref (r 16), .ref (r 17), .ref (r 18), .ref (r 19), .ref (r 20), .ref (r 21), .ref (r 22), .ref (r 23), .ref (r 24), .ref (r 25), .ref (r 26), .ref (r 27), .ref (r 28), .ref (r 29), .int 0, .int 0, .int 0, .ref (r 30), .int 0, .int 0, .int 0, .int 0, .int 0, .int 0, .ref (r 31), .int 0, .int 0, .int 0, .ref (r 32), .ref (r 33)])), ((r 6), .inl ((j 4), 5, .inl (fun _ => 0))), ((r 7), .inl ((j 5), 40, .inl (fun _ => 0)))]) hD hS hA [78, 83, 84] rfl
  refine va_calli (va_runV (As := [.int (xs 1), .int (xs 2)]) (rest := [.int (-2)]) ⟨hx, hb, hml, hown, hts⟩ (f_X12_rate l dC dI H.size ((r 0)) ((r 1)) ((r 2)) ((r 3)) ((r 4)) ((r 5)) ((r 6)) ((r 7)) ((r 8)) ((r 9)) ((r 10)) ((r 11)) ((r 12)) ((r 13)) ((r 14)) ((r 15)) ((r 16)) ((r 17)) ((r 18)) ((r 19)) ((r 20)) ((r 21)) ((r 22)) ((r 23)) ((r 24)) ((r 25)) ((r 26)) ((r 27)) ((r 28)) ((r 29)) ((r 30)) ((r 31)) ((r 32)) ((r 33)) ((j 4)) ((j 5)) ((xs 1)) ((xs 2))) (cwV 2 hts (gk_V tw_1091 tw_1092 tw_1093 tw_505 wki_f_X12_rate wkg_f_X12_rate) rfl rfl rfl (by decide +kernel) ⟨Nat.le_of_ble_eq_true rfl, Nat.le_of_ble_eq_true rfl⟩) ⟨fun a U g mk q => by obtain ⟨q0, q1, qP, qK, qD⟩ := q; exact ⟨q0, q1, qP, va_K.moved (u := U) (U := U.calling g mk a) (Vm.Alike.refl U.vm) qK, qD⟩, va_recv hKc hPc (ci := 12) (q0 := 0) rfl rfl, fun U hU hW => ⟨rfl, by rw [hU], by rw [hU]; exact hPc, va_K.moved hW.alike hKc, hDc.weaken (fun _ _ _ _ => trivial)⟩⟩ rfl rfl hl.1 rfl (lv_room (Nat.le_of_ble_eq_true rfl)) dL_law_2037 ⟨Nat.le_of_ble_eq_true rfl, Nat.le_of_ble_eq_true rfl⟩) hS (fun q _ h => hFc q h) hFc (fun oz8 u t H1 locs ht hvm gz7 hB hz1 hk1 hS => ?_)
  generalize H1 = H at hS ⊢
  refine W.widen (k := 305) (n := 4995) (Nat.le_of_ble_eq_true rfl) (Nat.le_of_ble_eq_true rfl) ?_
  obtain rfl := gz7
  refine lv_icmp_eq (tgt := 2293) hx hb dL_law_2040 (by decide) (fun cz9 => ?_) (fun cz9 => ?_)
  · skip
    exact law_end (dC := dC) (dI := dI) (Nat.le_of_eq hL6) C0 A hAe (q 0) (r 0) H locs hS ls hl
  · skip
    exact absurd cz9 (by decide)
set_option maxHeartbeats 4000000 in
set_option maxRecDepth 100000 in
theorem law_case_66 {p : Program} {l : Launch} {e : Env} {s : State} {m : MethodId} {below : List Frame} {meth : Method} {c : Code} {dC : Nat → ClassId} {dI : Nat → Nat → Nat} {b L : Nat} {xs : Nat → Int32} (hL6 : L = 6) (C0 : lw_At p s m meth c b L xs) (A : Nat → Prop) (hAe : A = fun q => s.heap.size ≤ q) (q r : Nat → Nat) (k j : Nat → ClassId) (H : Heap) (locs : List Loc) (hK : va_K (dC, dI) vwCl (tX k ++ tM j) s) (hP : va_P (dC, dI) vwCl (wX q k ++ wM r j) H) (hD : va_D A (wX q k ++ wM r j)) (hS : va_S A s.heap H locs) (ls : Array Slot) (hl : lv_has ls 4 [(0, .ref b), (1, .ref (q 0)), (2, .ref (r 0)), (3, .int 0)]) : W p l e room_1 s m #[Value.ref b] below meth c H locs 305 4995 (lw_Z below #[Value.ref b] s) (F0 m 2045 ls []) := by
  obtain ⟨hx, hb, hr, hml, hown, hts, hX, hbl, hlocks, hgv⟩ := id C0
  have hown : s.vm.findClass RL = some m.cls := hown
  have hA : ∀ q : Nat, s.heap.size ≤ q → A q := by rw [hAe]; exact fun _ h => h
  have hbA : ¬ A b := by rw [hAe]; exact Nat.not_le.mpr hbl
  refine lv_aload_n hx hb dL_law_2045 rfl (lv_at hl 1 rfl) ?_
  refine lv_aload_n hx hb dL_law_2046 rfl (lv_at hl 0 rfl) ?_
  refine lv_iload_n hx hb dL_law_2047 rfl (lv_at hl 3 rfl) ?_
  refine lv_iconst (v := 1) hx hb dL_law_2048 (by decide) ?_
  refine lv_iadd hx hb dL_law_2049 ?_
  refine lv_topi (fun xz1 exz1 => ?_)
  obtain rfl : xz1 = 1 := exz1.trans (by decide)
  refine va_sld hx hb hX hbl hbA hS (by rw [hL6]; unfold vp_in; decide) dL_law_2050 ?_
  refine W.eq (g2 := F0 m 2051 ls [.int (xs 1), .ref (q 0)]) rfl ?_
  have hPc := hP.sub (ws' := [((q 0), .inr (11, [.ref (q 1), .ref (q 2), .ref (q 3), .ref (q 4), .ref (q 5), .ref (q 6), .ref (q 7), .ref (q 8), .ref (q 9), .ref (q 10), .ref (q 11), .ref (q 12), .ref (q 13), .ref (q 14), .ref (q 15)])), ((q 14), .inl ((k 20), 4, .inr (.inr (.inr (.inr (va_up (va_up (va_up (va_up (fun _ => none) 0 (some (q 43))) 1 (some (q 44))) 2 (some (q 45))) 3 (some (q 46)))))))), ((q 43), .inr (6, [.ref (q 47), .int 0, .int 0, .int 0])), ((q 44), .inr (6, [.ref (q 48), .int 0, .int 0, .int 0])), ((q 45), .inr (6, [.ref (q 49), .int 0, .int 0, .int 0])), ((q 46), .inr (6, [.ref (q 50), .int 0, .int 0, .int 0])), ((q 2), .inr (10, [.ref (q 25), .ref (q 26), .ref (q 27), .ref (q 28), .ref (q 29), .ref (q 30), .ref (q 31), .int 0, .int 0, .int 0, .int 0, .int 0, .int 0, .int 0, .int 0, .int 0])), ((q 3), .inr (0, [.ref (q 32), .ref (q 33), .ref (q 34), .int 0])), ((q 1), .inr (9, [.ref (q 16), .ref (q 17), .int 0, .int 0, .int (-1), .int 0, .int 0, .int 0, .int 0, .int 0]))]) [0, 29, 30, 32, 34, 36, 11, 19, 1] rfl
  have hKc := hK.sub (tys' := [((k 20), .object RX6)]) [20] rfl
  refine vp_callSi (va_Run.run (va_runV (As := [.int (xs 1)]) (rest := []) ⟨hx, hb, hml, hown, hts⟩ (f_X11_count l dC dI ((q 0)) ((q 1)) ((q 2)) ((q 3)) ((q 4)) ((q 5)) ((q 6)) ((q 7)) ((q 8)) ((q 9)) ((q 10)) ((q 11)) ((q 12)) ((q 13)) ((q 14)) ((q 15)) ((q 43)) ((q 44)) ((q 45)) ((q 46)) ((q 47)) ((q 48)) ((q 49)) ((q 50)) ((k 20)) ((q 25)) ((q 26)) ((q 27)) ((q 28)) ((q 29)) ((q 30)) ((q 31)) ((q 32)) ((q 33)) ((q 34)) ((q 16)) ((q 17)) ((xs 1))) (cwV 1 hts (gk_V tw_1094 tw_1095 tw_1096 tw_157 wki_f_X11_count wkg_f_X11_count) rfl rfl rfl (by decide +kernel) ⟨Nat.le_of_ble_eq_true rfl, Nat.le_of_ble_eq_true rfl⟩) ⟨fun a U g mk q => by obtain ⟨q0, qP, qK⟩ := q; exact ⟨q0, qP, va_K.moved (u := U) (U := U.calling g mk a) (Vm.Alike.refl U.vm) qK⟩, va_recv hKc hPc (ci := 11) (q0 := 0) rfl rfl, fun U hU hW => ⟨rfl, by rw [hU]; exact hPc, va_K.moved hW.alike hKc⟩⟩ rfl rfl hl.1 rfl (lv_room (Nat.le_of_ble_eq_true rfl)) dL_law_2051 ⟨Nat.le_of_ble_eq_true rfl, Nat.le_of_ble_eq_true rfl⟩)) (fun oz3 gz2 => ?_)
  rcases gz2 with ⟨rfl, cz4⟩ | ⟨rfl, cz5, cz6⟩ | ⟨rfl, cz7, cz8, cz9⟩ | ⟨rfl, cz10, cz11, cz12, cz13⟩ | ⟨rfl, cz14, cz15, cz16, cz17, cz18⟩ | ⟨rfl, cz19, cz20, cz21, cz22, cz23, cz24⟩ | ⟨rfl, cz25, cz26, cz27, cz28, cz29, cz30, cz31⟩ | ⟨rfl, cz32, cz33, cz34, cz35, cz36, cz37, cz38, cz39⟩ | ⟨rfl, cz40, cz41, cz42, cz43, cz44, cz45, cz46, cz47, cz48⟩ | ⟨rfl, cz49, cz50, cz51, cz52, cz53, cz54, cz55, cz56, cz57, cz58⟩ | ⟨rfl, cz59, cz60, cz61, cz62, cz63, cz64, cz65, cz66, cz67, cz68, cz69⟩ | ⟨rfl, cz70, cz71, cz72, cz73, cz74, cz75, cz76, cz77, cz78, cz79, cz80⟩
  · skip
    refine lv_aload_n hx hb dL_law_2054 rfl (lv_at hl 2 rfl) ?_
    refine lv_aload_n hx hb dL_law_2055 rfl (lv_at hl 0 rfl) ?_
    refine lv_iload_n hx hb dL_law_2056 rfl (lv_at hl 3 rfl) ?_
    refine lv_iconst (v := 1) hx hb dL_law_2057 (by decide) ?_
    refine lv_iadd hx hb dL_law_2058 ?_
    refine lv_topi (fun xz81 exz81 => ?_)
    obtain rfl : xz81 = 1 := exz81.trans (by decide)
    refine va_sld hx hb hX hbl hbA hS (by rw [hL6]; unfold vp_in; decide) dL_law_2059 ?_
    refine W.eq (g2 := F0 m 2060 ls [.int (xs 1), .ref (r 0), .int 0]) rfl ?_
    have hPc := hP.sub (ws' := [((r 0), .inr (12, [.int 0, .ref (r 1), .ref (r 2), .ref (r 3), .ref (r 4), .ref (r 5), .int 0, .int 0, .int 0, .int 0, .int 0, .long 0, .int 0, .int 0, .int 0, .int (-1), .ref (r 6), .ref (r 7), .ref (r 8), .ref (r 9), .ref (r 10), .ref (r 11), .ref (r 12), .ref (r 13), .int 0, .int 0, .int 0, .ref (r 14), .ref (r 15), .ref (r 16), .ref (r 17), .ref (r 18), .ref (r 19), .ref (r 20), .ref (r 21), .ref (r 22), .ref (r 23), .ref (r 24), .ref (r 25), .ref (r 26), .ref (r 27), .ref (r 28), .ref (r 29), .int 0, .int 0, .int 0, .ref (r 30), .int 0, .int 0, .int 0, .int 0, .int 0, .int 0, .ref (r 31), .int 0, .int 0, .int 0, .ref (r 32), .ref (r 33)])), ((r 7), .inl ((j 5), 40, .inl (fun _ => 0))), ((r 6), .inl ((j 4), 5, .inl (fun _ => 0))), ((r 1), .inl ((j 0), 4, .inl (upd (upd (upd (upd (fun _ => 0) 0 (-1)) 1 (-1)) 2 (-1)) 3 (-1))))]) [78, 84, 83, 79] rfl
    have hKc := hK.sub (tys' := [((j 5), .int), ((j 4), .int), ((j 0), .int)]) [61, 60, 56] rfl
    have hDc := hD.sub (ws' := [((r 0), .inr (12, [.int 0, .ref (r 1), .ref (r 2), .ref (r 3), .ref (r 4), .ref (r 5), .int 0, .int 0, .int 0, .int 0, .int 0, .long 0, .int 0, .int 0, .int 0, .int (-1), .ref (r 6), .ref (r 7), .ref (r 8), .ref (r 9), .ref (r 10), .ref (r 11), .ref (r 12), .ref (r 13), .int 0, .int 0, .int 0, .ref (r 14), .ref (r 15), .ref (r 16), .ref (r 17), .ref (r 18), .ref (r 19), .ref (r 20), .ref (r 21), .ref (r 22), .ref (r 23), .ref (r 24), .ref (r 25), .ref (r 26), .ref (r 27), .ref (r 28), .ref (r 29), .int 0, .int 0, .int 0, .ref (r 30), .int 0, .int 0, .int 0, .int 0, .int 0, .int 0, .ref (r 31), .int 0, .int 0, .int 0, .ref (r 32), .ref (r 33)])), ((r 7), .inl ((j 5), 40, .inl (fun _ => 0))), ((r 6), .inl ((j 4), 5, .inl (fun _ => 0))), ((r 1), .inl ((j 0), 4, .inl (upd (upd (upd (upd (fun _ => 0) 0 (-1)) 1 (-1)) 2 (-1)) 3 (-1))))]) [78, 84, 83, 79] (by decide) rfl
    have hFc := va_free (wc := [((r 0), .inr (12, [.int 0, .ref (r 1), .ref (r 2), .ref (r 3), .ref (r 4), .ref (r 5), .int 0, .int 0, .int 0, .int 0, .int 0, .long 0, .int 0, .int 0, .int 0, .int (-1), .ref (r 6), .ref (r 7), .ref (r 8), .ref (r 9), .ref (r 10), .ref (r 11), .ref (r 12), .ref (r 13), .int 0, .int 0, .int 0, .ref (r 14), .ref (r 15), .ref (r 16), .ref (r 17), .ref (r 18), .ref (r 19), .ref (r 20), .ref (r 21), .ref (r 22), .ref (r 23), .ref (r 24), .ref (r 25), .ref (r 26), .ref (r 27), .ref (r 28), .ref (r 29), .int 0, .int 0, .int 0, .ref (r 30), .int 0, .int 0, .int 0, .int 0, .int 0, .int 0, .ref (r 31), .int 0, .int 0, .int 0, .ref (r 32), .ref (r 33)])), ((r 7), .inl ((j 5), 40, .inl (fun _ => 0))), ((r 6), .inl ((j 4), 5, .inl (fun _ => 0))), ((r 1), .inl ((j 0), 4, .inl (upd (upd (upd (upd (fun _ => 0) 0 (-1)) 1 (-1)) 2 (-1)) 3 (-1))))]) hD hS hA [78, 84, 83, 79] rfl
    refine va_calli (va_runV (As := [.int (xs 1)]) (rest := [.int 0]) ⟨hx, hb, hml, hown, hts⟩ (f_X12_count l dC dI H.size ((r 0)) ((r 1)) ((r 2)) ((r 3)) ((r 4)) ((r 5)) ((r 6)) ((r 7)) ((r 8)) ((r 9)) ((r 10)) ((r 11)) ((r 12)) ((r 13)) ((r 14)) ((r 15)) ((r 16)) ((r 17)) ((r 18)) ((r 19)) ((r 20)) ((r 21)) ((r 22)) ((r 23)) ((r 24)) ((r 25)) ((r 26)) ((r 27)) ((r 28)) ((r 29)) ((r 30)) ((r 31)) ((r 32)) ((r 33)) ((j 5)) ((j 4)) ((j 0)) ((xs 1))) (cwV 1 hts (gk_V tw_1097 tw_1098 tw_1099 tw_505 wki_f_X12_count wkg_f_X12_count) rfl rfl rfl (by decide +kernel) ⟨Nat.le_of_ble_eq_true rfl, Nat.le_of_ble_eq_true rfl⟩) ⟨fun a U g mk q => by obtain ⟨q0, q1, qP, qK, qD⟩ := q; exact ⟨q0, q1, qP, va_K.moved (u := U) (U := U.calling g mk a) (Vm.Alike.refl U.vm) qK, qD⟩, va_recv hKc hPc (ci := 12) (q0 := 0) rfl rfl, fun U hU hW => ⟨rfl, by rw [hU], by rw [hU]; exact hPc, va_K.moved hW.alike hKc, hDc.weaken (fun _ _ _ _ => trivial)⟩⟩ rfl rfl hl.1 rfl (lv_room (Nat.le_of_ble_eq_true rfl)) dL_law_2060 ⟨Nat.le_of_ble_eq_true rfl, Nat.le_of_ble_eq_true rfl⟩) hS (fun q _ h => hFc q h) hFc (fun oz83 u t H1 locs ht hvm gz82 hB hz1 hk1 hS => ?_)
    generalize H1 = H at hS ⊢
    refine W.widen (k := 305) (n := 4995) (Nat.le_of_ble_eq_true rfl) (Nat.le_of_ble_eq_true rfl) ?_
    rcases gz82 with ⟨rfl, cz84, cz85, cz86, cz87⟩ | ⟨rfl, cz88, cz89, cz90⟩ | ⟨rfl, cz91, cz92, cz93, cz94⟩ | ⟨rfl, cz95, cz96, cz97, cz98, cz99⟩ | ⟨rfl, cz100, cz101, cz102, cz103, cz104⟩ | ⟨rfl, cz105, cz106⟩
    · skip
      have z0 : (xs 1).toInt = (0 : Int) := zi_eq.mp cz4
      have z1 : (xs 1).toInt < (0 : Int) := by have h9 := zi_ltL.mp cz84; simp only [Int32.toInt_toInt64] at h9; exact h9
      omega
    · skip
      have z0 : (xs 1).toInt = (0 : Int) := zi_eq.mp cz4
      have z1 : ¬ (xs 1).toInt < (0 : Int) := by intro h9; apply cz88; rw [zi_ltL]; simp only [Int32.toInt_toInt64]; exact h9
      have z2 : (7 : Int) < (xs 1).toInt := by have h9 := zi_ltL.mp cz89; simp only [Int32.toInt_toInt64] at h9; exact h9
      omega
    · skip
      have z0 : (xs 1).toInt = (0 : Int) := zi_eq.mp cz4
      have z1 : ¬ (xs 1).toInt < (0 : Int) := by intro h9; apply cz91; rw [zi_ltL]; simp only [Int32.toInt_toInt64]; exact h9
      have z2 : (7 : Int) < (xs 1).toInt := by have h9 := zi_ltL.mp cz92; simp only [Int32.toInt_toInt64] at h9; exact h9
      omega
    · skip
      have z0 : (xs 1).toInt = (0 : Int) := zi_eq.mp cz4
      have z1 : ¬ (xs 1).toInt < (0 : Int) := by intro h9; apply cz95; rw [zi_ltL]; simp only [Int32.toInt_toInt64]; exact h9
      have z2 : (7 : Int) < (xs 1).toInt := by have h9 := zi_ltL.mp cz96; simp only [Int32.toInt_toInt64] at h9; exact h9
      omega
    · skip
      have z0 : (xs 1).toInt = (0 : Int) := zi_eq.mp cz4
      have z1 : ¬ (xs 1).toInt < (0 : Int) := by intro h9; apply cz100; rw [zi_ltL]; simp only [Int32.toInt_toInt64]; exact h9
      have z2 : (7 : Int) < (xs 1).toInt := by have h9 := zi_ltL.mp cz101; simp only [Int32.toInt_toInt64] at h9; exact h9
      omega
    · skip
      refine lv_icmp_eq (tgt := 2293) hx hb dL_law_2063 (by decide) (fun cz107 => ?_) (fun cz107 => ?_)
      · skip
        exact law_end (dC := dC) (dI := dI) (Nat.le_of_eq hL6) C0 A hAe (q 0) (r 0) H locs hS ls hl
      · skip
        exact absurd cz107 (by decide)
  · skip
    refine lv_aload_n hx hb dL_law_2054 rfl (lv_at hl 2 rfl) ?_
    refine lv_aload_n hx hb dL_law_2055 rfl (lv_at hl 0 rfl) ?_
    refine lv_iload_n hx hb dL_law_2056 rfl (lv_at hl 3 rfl) ?_
    refine lv_iconst (v := 1) hx hb dL_law_2057 (by decide) ?_
    refine lv_iadd hx hb dL_law_2058 ?_
    refine lv_topi (fun xz108 exz108 => ?_)
    obtain rfl : xz108 = 1 := exz108.trans (by decide)
    refine va_sld hx hb hX hbl hbA hS (by rw [hL6]; unfold vp_in; decide) dL_law_2059 ?_
    refine W.eq (g2 := F0 m 2060 ls [.int (xs 1), .ref (r 0), .int 0]) rfl ?_
    have hPc := hP.sub (ws' := [((r 0), .inr (12, [.int 0, .ref (r 1), .ref (r 2), .ref (r 3), .ref (r 4), .ref (r 5), .int 0, .int 0, .int 0, .int 0, .int 0, .long 0, .int 0, .int 0, .int 0, .int (-1), .ref (r 6), .ref (r 7), .ref (r 8), .ref (r 9), .ref (r 10), .ref (r 11), .ref (r 12), .ref (r 13), .int 0, .int 0, .int 0, .ref (r 14), .ref (r 15), .ref (r 16), .ref (r 17), .ref (r 18), .ref (r 19), .ref (r 20), .ref (r 21), .ref (r 22), .ref (r 23), .ref (r 24), .ref (r 25), .ref (r 26), .ref (r 27), .ref (r 28), .ref (r 29), .int 0, .int 0, .int 0, .ref (r 30), .int 0, .int 0, .int 0, .int 0, .int 0, .int 0, .ref (r 31), .int 0, .int 0, .int 0, .ref (r 32), .ref (r 33)])), ((r 7), .inl ((j 5), 40, .inl (fun _ => 0))), ((r 6), .inl ((j 4), 5, .inl (fun _ => 0))), ((r 1), .inl ((j 0), 4, .inl (upd (upd (upd (upd (fun _ => 0) 0 (-1)) 1 (-1)) 2 (-1)) 3 (-1))))]) [78, 84, 83, 79] rfl
    have hKc := hK.sub (tys' := [((j 5), .int), ((j 4), .int), ((j 0), .int)]) [61, 60, 56] rfl
    have hDc := hD.sub (ws' := [((r 0), .inr (12, [.int 0, .ref (r 1), .ref (r 2), .ref (r 3), .ref (r 4), .ref (r 5), .int 0, .int 0, .int 0, .int 0, .int 0, .long 0, .int 0, .int 0, .int 0, .int (-1), .ref (r 6), .ref (r 7), .ref (r 8), .ref (r 9), .ref (r 10), .ref (r 11), .ref (r 12), .ref (r 13), .int 0, .int 0, .int 0, .ref (r 14), .ref (r 15), .ref (r 16), .ref (r 17), .ref (r 18), .ref (r 19), .ref (r 20), .ref (r 21), .ref (r 22), .ref (r 23), .ref (r 24), .ref (r 25), .ref (r 26), .ref (r 27), .ref (r 28), .ref (r 29), .int 0, .int 0, .int 0, .ref (r 30), .int 0, .int 0, .int 0, .int 0, .int 0, .int 0, .ref (r 31), .int 0, .int 0, .int 0, .ref (r 32), .ref (r 33)])), ((r 7), .inl ((j 5), 40, .inl (fun _ => 0))), ((r 6), .inl ((j 4), 5, .inl (fun _ => 0))), ((r 1), .inl ((j 0), 4, .inl (upd (upd (upd (upd (fun _ => 0) 0 (-1)) 1 (-1)) 2 (-1)) 3 (-1))))]) [78, 84, 83, 79] (by decide) rfl
    have hFc := va_free (wc := [((r 0), .inr (12, [.int 0, .ref (r 1), .ref (r 2), .ref (r 3), .ref (r 4), .ref (r 5), .int 0, .int 0, .int 0, .int 0, .int 0, .long 0, .int 0, .int 0, .int 0, .int (-1), .ref (r 6), .ref (r 7), .ref (r 8), .ref (r 9), .ref (r 10), .ref (r 11), .ref (r 12), .ref (r 13), .int 0, .int 0, .int 0, .ref (r 14), .ref (r 15), .ref (r 16), .ref (r 17), .ref (r 18), .ref (r 19), .ref (r 20), .ref (r 21), .ref (r 22), .ref (r 23), .ref (r 24), .ref (r 25), .ref (r 26), .ref (r 27), .ref (r 28), .ref (r 29), .int 0, .int 0, .int 0, .ref (r 30), .int 0, .int 0, .int 0, .int 0, .int 0, .int 0, .ref (r 31), .int 0, .int 0, .int 0, .ref (r 32), .ref (r 33)])), ((r 7), .inl ((j 5), 40, .inl (fun _ => 0))), ((r 6), .inl ((j 4), 5, .inl (fun _ => 0))), ((r 1), .inl ((j 0), 4, .inl (upd (upd (upd (upd (fun _ => 0) 0 (-1)) 1 (-1)) 2 (-1)) 3 (-1))))]) hD hS hA [78, 84, 83, 79] rfl
    refine va_calli (va_runV (As := [.int (xs 1)]) (rest := [.int 0]) ⟨hx, hb, hml, hown, hts⟩ (f_X12_count l dC dI H.size ((r 0)) ((r 1)) ((r 2)) ((r 3)) ((r 4)) ((r 5)) ((r 6)) ((r 7)) ((r 8)) ((r 9)) ((r 10)) ((r 11)) ((r 12)) ((r 13)) ((r 14)) ((r 15)) ((r 16)) ((r 17)) ((r 18)) ((r 19)) ((r 20)) ((r 21)) ((r 22)) ((r 23)) ((r 24)) ((r 25)) ((r 26)) ((r 27)) ((r 28)) ((r 29)) ((r 30)) ((r 31)) ((r 32)) ((r 33)) ((j 5)) ((j 4)) ((j 0)) ((xs 1))) (cwV 1 hts (gk_V tw_1097 tw_1098 tw_1099 tw_505 wki_f_X12_count wkg_f_X12_count) rfl rfl rfl (by decide +kernel) ⟨Nat.le_of_ble_eq_true rfl, Nat.le_of_ble_eq_true rfl⟩) ⟨fun a U g mk q => by obtain ⟨q0, q1, qP, qK, qD⟩ := q; exact ⟨q0, q1, qP, va_K.moved (u := U) (U := U.calling g mk a) (Vm.Alike.refl U.vm) qK, qD⟩, va_recv hKc hPc (ci := 12) (q0 := 0) rfl rfl, fun U hU hW => ⟨rfl, by rw [hU], by rw [hU]; exact hPc, va_K.moved hW.alike hKc, hDc.weaken (fun _ _ _ _ => trivial)⟩⟩ rfl rfl hl.1 rfl (lv_room (Nat.le_of_ble_eq_true rfl)) dL_law_2060 ⟨Nat.le_of_ble_eq_true rfl, Nat.le_of_ble_eq_true rfl⟩) hS (fun q _ h => hFc q h) hFc (fun oz110 u t H1 locs ht hvm gz109 hB hz1 hk1 hS => ?_)
    generalize H1 = H at hS ⊢
    refine W.widen (k := 305) (n := 4995) (Nat.le_of_ble_eq_true rfl) (Nat.le_of_ble_eq_true rfl) ?_
    rcases gz109 with ⟨rfl, cz111, cz112, cz113, cz114⟩ | ⟨rfl, cz115, cz116, cz117⟩ | ⟨rfl, cz118, cz119, cz120, cz121⟩ | ⟨rfl, cz122, cz123, cz124, cz125, cz126⟩ | ⟨rfl, cz127, cz128, cz129, cz130, cz131⟩ | ⟨rfl, cz132, cz133⟩
    · skip
      have z0 : ¬ (xs 1).toInt = (0 : Int) := fun h9 => cz5 (zi_eq.mpr h9)
      have z1 : (xs 1).toInt = (1 : Int) := zi_eq.mp cz6
      have z2 : (xs 1).toInt < (0 : Int) := by have h9 := zi_ltL.mp cz111; simp only [Int32.toInt_toInt64] at h9; exact h9
      omega
    · skip
      have z0 : ¬ (xs 1).toInt = (0 : Int) := fun h9 => cz5 (zi_eq.mpr h9)
      have z1 : (xs 1).toInt = (1 : Int) := zi_eq.mp cz6
      have z2 : ¬ (xs 1).toInt < (0 : Int) := by intro h9; apply cz115; rw [zi_ltL]; simp only [Int32.toInt_toInt64]; exact h9
      have z3 : (7 : Int) < (xs 1).toInt := by have h9 := zi_ltL.mp cz116; simp only [Int32.toInt_toInt64] at h9; exact h9
      omega
    · skip
      have z0 : ¬ (xs 1).toInt = (0 : Int) := fun h9 => cz5 (zi_eq.mpr h9)
      have z1 : (xs 1).toInt = (1 : Int) := zi_eq.mp cz6
      have z2 : ¬ (xs 1).toInt < (0 : Int) := by intro h9; apply cz118; rw [zi_ltL]; simp only [Int32.toInt_toInt64]; exact h9
      have z3 : (7 : Int) < (xs 1).toInt := by have h9 := zi_ltL.mp cz119; simp only [Int32.toInt_toInt64] at h9; exact h9
      omega
    · skip
      have z0 : ¬ (xs 1).toInt = (0 : Int) := fun h9 => cz5 (zi_eq.mpr h9)
      have z1 : (xs 1).toInt = (1 : Int) := zi_eq.mp cz6
      have z2 : ¬ (xs 1).toInt < (0 : Int) := by intro h9; apply cz122; rw [zi_ltL]; simp only [Int32.toInt_toInt64]; exact h9
      have z3 : (7 : Int) < (xs 1).toInt := by have h9 := zi_ltL.mp cz123; simp only [Int32.toInt_toInt64] at h9; exact h9
      omega
    · skip
      have z0 : ¬ (xs 1).toInt = (0 : Int) := fun h9 => cz5 (zi_eq.mpr h9)
      have z1 : (xs 1).toInt = (1 : Int) := zi_eq.mp cz6
      have z2 : ¬ (xs 1).toInt < (0 : Int) := by intro h9; apply cz127; rw [zi_ltL]; simp only [Int32.toInt_toInt64]; exact h9
      have z3 : (7 : Int) < (xs 1).toInt := by have h9 := zi_ltL.mp cz128; simp only [Int32.toInt_toInt64] at h9; exact h9
      omega
    · skip
      refine lv_icmp_eq (tgt := 2293) hx hb dL_law_2063 (by decide) (fun cz134 => ?_) (fun cz134 => ?_)
      · skip
        exact law_end (dC := dC) (dI := dI) (Nat.le_of_eq hL6) C0 A hAe (q 0) (r 0) H locs hS ls hl
      · skip
        exact absurd cz134 (by decide)
  · skip
    refine lv_aload_n hx hb dL_law_2054 rfl (lv_at hl 2 rfl) ?_
    refine lv_aload_n hx hb dL_law_2055 rfl (lv_at hl 0 rfl) ?_
    refine lv_iload_n hx hb dL_law_2056 rfl (lv_at hl 3 rfl) ?_
    refine lv_iconst (v := 1) hx hb dL_law_2057 (by decide) ?_
    refine lv_iadd hx hb dL_law_2058 ?_
    refine lv_topi (fun xz135 exz135 => ?_)
    obtain rfl : xz135 = 1 := exz135.trans (by decide)
    refine va_sld hx hb hX hbl hbA hS (by rw [hL6]; unfold vp_in; decide) dL_law_2059 ?_
    refine W.eq (g2 := F0 m 2060 ls [.int (xs 1), .ref (r 0), .int 0]) rfl ?_
    have hPc := hP.sub (ws' := [((r 0), .inr (12, [.int 0, .ref (r 1), .ref (r 2), .ref (r 3), .ref (r 4), .ref (r 5), .int 0, .int 0, .int 0, .int 0, .int 0, .long 0, .int 0, .int 0, .int 0, .int (-1), .ref (r 6), .ref (r 7), .ref (r 8), .ref (r 9), .ref (r 10), .ref (r 11), .ref (r 12), .ref (r 13), .int 0, .int 0, .int 0, .ref (r 14), .ref (r 15), .ref (r 16), .ref (r 17), .ref (r 18), .ref (r 19), .ref (r 20), .ref (r 21), .ref (r 22), .ref (r 23), .ref (r 24), .ref (r 25), .ref (r 26), .ref (r 27), .ref (r 28), .ref (r 29), .int 0, .int 0, .int 0, .ref (r 30), .int 0, .int 0, .int 0, .int 0, .int 0, .int 0, .ref (r 31), .int 0, .int 0, .int 0, .ref (r 32), .ref (r 33)])), ((r 7), .inl ((j 5), 40, .inl (fun _ => 0))), ((r 6), .inl ((j 4), 5, .inl (fun _ => 0))), ((r 1), .inl ((j 0), 4, .inl (upd (upd (upd (upd (fun _ => 0) 0 (-1)) 1 (-1)) 2 (-1)) 3 (-1))))]) [78, 84, 83, 79] rfl
    have hKc := hK.sub (tys' := [((j 5), .int), ((j 4), .int), ((j 0), .int)]) [61, 60, 56] rfl
    have hDc := hD.sub (ws' := [((r 0), .inr (12, [.int 0, .ref (r 1), .ref (r 2), .ref (r 3), .ref (r 4), .ref (r 5), .int 0, .int 0, .int 0, .int 0, .int 0, .long 0, .int 0, .int 0, .int 0, .int (-1), .ref (r 6), .ref (r 7), .ref (r 8), .ref (r 9), .ref (r 10), .ref (r 11), .ref (r 12), .ref (r 13), .int 0, .int 0, .int 0, .ref (r 14), .ref (r 15), .ref (r 16), .ref (r 17), .ref (r 18), .ref (r 19), .ref (r 20), .ref (r 21), .ref (r 22), .ref (r 23), .ref (r 24), .ref (r 25), .ref (r 26), .ref (r 27), .ref (r 28), .ref (r 29), .int 0, .int 0, .int 0, .ref (r 30), .int 0, .int 0, .int 0, .int 0, .int 0, .int 0, .ref (r 31), .int 0, .int 0, .int 0, .ref (r 32), .ref (r 33)])), ((r 7), .inl ((j 5), 40, .inl (fun _ => 0))), ((r 6), .inl ((j 4), 5, .inl (fun _ => 0))), ((r 1), .inl ((j 0), 4, .inl (upd (upd (upd (upd (fun _ => 0) 0 (-1)) 1 (-1)) 2 (-1)) 3 (-1))))]) [78, 84, 83, 79] (by decide) rfl
    have hFc := va_free (wc := [((r 0), .inr (12, [.int 0, .ref (r 1), .ref (r 2), .ref (r 3), .ref (r 4), .ref (r 5), .int 0, .int 0, .int 0, .int 0, .int 0, .long 0, .int 0, .int 0, .int 0, .int (-1), .ref (r 6), .ref (r 7), .ref (r 8), .ref (r 9), .ref (r 10), .ref (r 11), .ref (r 12), .ref (r 13), .int 0, .int 0, .int 0, .ref (r 14), .ref (r 15), .ref (r 16), .ref (r 17), .ref (r 18), .ref (r 19), .ref (r 20), .ref (r 21), .ref (r 22), .ref (r 23), .ref (r 24), .ref (r 25), .ref (r 26), .ref (r 27), .ref (r 28), .ref (r 29), .int 0, .int 0, .int 0, .ref (r 30), .int 0, .int 0, .int 0, .int 0, .int 0, .int 0, .ref (r 31), .int 0, .int 0, .int 0, .ref (r 32), .ref (r 33)])), ((r 7), .inl ((j 5), 40, .inl (fun _ => 0))), ((r 6), .inl ((j 4), 5, .inl (fun _ => 0))), ((r 1), .inl ((j 0), 4, .inl (upd (upd (upd (upd (fun _ => 0) 0 (-1)) 1 (-1)) 2 (-1)) 3 (-1))))]) hD hS hA [78, 84, 83, 79] rfl
    refine va_calli (va_runV (As := [.int (xs 1)]) (rest := [.int 0]) ⟨hx, hb, hml, hown, hts⟩ (f_X12_count l dC dI H.size ((r 0)) ((r 1)) ((r 2)) ((r 3)) ((r 4)) ((r 5)) ((r 6)) ((r 7)) ((r 8)) ((r 9)) ((r 10)) ((r 11)) ((r 12)) ((r 13)) ((r 14)) ((r 15)) ((r 16)) ((r 17)) ((r 18)) ((r 19)) ((r 20)) ((r 21)) ((r 22)) ((r 23)) ((r 24)) ((r 25)) ((r 26)) ((r 27)) ((r 28)) ((r 29)) ((r 30)) ((r 31)) ((r 32)) ((r 33)) ((j 5)) ((j 4)) ((j 0)) ((xs 1))) (cwV 1 hts (gk_V tw_1097 tw_1098 tw_1099 tw_505 wki_f_X12_count wkg_f_X12_count) rfl rfl rfl (by decide +kernel) ⟨Nat.le_of_ble_eq_true rfl, Nat.le_of_ble_eq_true rfl⟩) ⟨fun a U g mk q => by obtain ⟨q0, q1, qP, qK, qD⟩ := q; exact ⟨q0, q1, qP, va_K.moved (u := U) (U := U.calling g mk a) (Vm.Alike.refl U.vm) qK, qD⟩, va_recv hKc hPc (ci := 12) (q0 := 0) rfl rfl, fun U hU hW => ⟨rfl, by rw [hU], by rw [hU]; exact hPc, va_K.moved hW.alike hKc, hDc.weaken (fun _ _ _ _ => trivial)⟩⟩ rfl rfl hl.1 rfl (lv_room (Nat.le_of_ble_eq_true rfl)) dL_law_2060 ⟨Nat.le_of_ble_eq_true rfl, Nat.le_of_ble_eq_true rfl⟩) hS (fun q _ h => hFc q h) hFc (fun oz137 u t H1 locs ht hvm gz136 hB hz1 hk1 hS => ?_)
    generalize H1 = H at hS ⊢
    refine W.widen (k := 305) (n := 4995) (Nat.le_of_ble_eq_true rfl) (Nat.le_of_ble_eq_true rfl) ?_
    rcases gz136 with ⟨rfl, cz138, cz139, cz140, cz141⟩ | ⟨rfl, cz142, cz143, cz144⟩ | ⟨rfl, cz145, cz146, cz147, cz148⟩ | ⟨rfl, cz149, cz150, cz151, cz152, cz153⟩ | ⟨rfl, cz154, cz155, cz156, cz157, cz158⟩ | ⟨rfl, cz159, cz160⟩
    · skip
      have z0 : ¬ (xs 1).toInt = (0 : Int) := fun h9 => cz7 (zi_eq.mpr h9)
      have z1 : ¬ (xs 1).toInt = (1 : Int) := fun h9 => cz8 (zi_eq.mpr h9)
      have z2 : (xs 1).toInt = (2 : Int) := zi_eq.mp cz9
      have z3 : (xs 1).toInt < (0 : Int) := by have h9 := zi_ltL.mp cz138; simp only [Int32.toInt_toInt64] at h9; exact h9
      omega
    · skip
      have z0 : ¬ (xs 1).toInt = (0 : Int) := fun h9 => cz7 (zi_eq.mpr h9)
      have z1 : ¬ (xs 1).toInt = (1 : Int) := fun h9 => cz8 (zi_eq.mpr h9)
      have z2 : (xs 1).toInt = (2 : Int) := zi_eq.mp cz9
      have z3 : ¬ (xs 1).toInt < (0 : Int) := by intro h9; apply cz142; rw [zi_ltL]; simp only [Int32.toInt_toInt64]; exact h9
      have z4 : (7 : Int) < (xs 1).toInt := by have h9 := zi_ltL.mp cz143; simp only [Int32.toInt_toInt64] at h9; exact h9
      omega
    · skip
      have z0 : ¬ (xs 1).toInt = (0 : Int) := fun h9 => cz7 (zi_eq.mpr h9)
      have z1 : ¬ (xs 1).toInt = (1 : Int) := fun h9 => cz8 (zi_eq.mpr h9)
      have z2 : (xs 1).toInt = (2 : Int) := zi_eq.mp cz9
      have z3 : ¬ (xs 1).toInt < (0 : Int) := by intro h9; apply cz145; rw [zi_ltL]; simp only [Int32.toInt_toInt64]; exact h9
      have z4 : (7 : Int) < (xs 1).toInt := by have h9 := zi_ltL.mp cz146; simp only [Int32.toInt_toInt64] at h9; exact h9
      omega
    · skip
      have z0 : ¬ (xs 1).toInt = (0 : Int) := fun h9 => cz7 (zi_eq.mpr h9)
      have z1 : ¬ (xs 1).toInt = (1 : Int) := fun h9 => cz8 (zi_eq.mpr h9)
      have z2 : (xs 1).toInt = (2 : Int) := zi_eq.mp cz9
      have z3 : ¬ (xs 1).toInt < (0 : Int) := by intro h9; apply cz149; rw [zi_ltL]; simp only [Int32.toInt_toInt64]; exact h9
      have z4 : (7 : Int) < (xs 1).toInt := by have h9 := zi_ltL.mp cz150; simp only [Int32.toInt_toInt64] at h9; exact h9
      omega
    · skip
      have z0 : ¬ (xs 1).toInt = (0 : Int) := fun h9 => cz7 (zi_eq.mpr h9)
      have z1 : ¬ (xs 1).toInt = (1 : Int) := fun h9 => cz8 (zi_eq.mpr h9)
      have z2 : (xs 1).toInt = (2 : Int) := zi_eq.mp cz9
      have z3 : ¬ (xs 1).toInt < (0 : Int) := by intro h9; apply cz154; rw [zi_ltL]; simp only [Int32.toInt_toInt64]; exact h9
      have z4 : (7 : Int) < (xs 1).toInt := by have h9 := zi_ltL.mp cz155; simp only [Int32.toInt_toInt64] at h9; exact h9
      omega
    · skip
      refine lv_icmp_eq (tgt := 2293) hx hb dL_law_2063 (by decide) (fun cz161 => ?_) (fun cz161 => ?_)
      · skip
        exact law_end (dC := dC) (dI := dI) (Nat.le_of_eq hL6) C0 A hAe (q 0) (r 0) H locs hS ls hl
      · skip
        exact absurd cz161 (by decide)
  · skip
    refine lv_aload_n hx hb dL_law_2054 rfl (lv_at hl 2 rfl) ?_
    refine lv_aload_n hx hb dL_law_2055 rfl (lv_at hl 0 rfl) ?_
    refine lv_iload_n hx hb dL_law_2056 rfl (lv_at hl 3 rfl) ?_
    refine lv_iconst (v := 1) hx hb dL_law_2057 (by decide) ?_
    refine lv_iadd hx hb dL_law_2058 ?_
    refine lv_topi (fun xz162 exz162 => ?_)
    obtain rfl : xz162 = 1 := exz162.trans (by decide)
    refine va_sld hx hb hX hbl hbA hS (by rw [hL6]; unfold vp_in; decide) dL_law_2059 ?_
    refine W.eq (g2 := F0 m 2060 ls [.int (xs 1), .ref (r 0), .int 0]) rfl ?_
    have hPc := hP.sub (ws' := [((r 0), .inr (12, [.int 0, .ref (r 1), .ref (r 2), .ref (r 3), .ref (r 4), .ref (r 5), .int 0, .int 0, .int 0, .int 0, .int 0, .long 0, .int 0, .int 0, .int 0, .int (-1), .ref (r 6), .ref (r 7), .ref (r 8), .ref (r 9), .ref (r 10), .ref (r 11), .ref (r 12), .ref (r 13), .int 0, .int 0, .int 0, .ref (r 14), .ref (r 15), .ref (r 16), .ref (r 17), .ref (r 18), .ref (r 19), .ref (r 20), .ref (r 21), .ref (r 22), .ref (r 23), .ref (r 24), .ref (r 25), .ref (r 26), .ref (r 27), .ref (r 28), .ref (r 29), .int 0, .int 0, .int 0, .ref (r 30), .int 0, .int 0, .int 0, .int 0, .int 0, .int 0, .ref (r 31), .int 0, .int 0, .int 0, .ref (r 32), .ref (r 33)])), ((r 7), .inl ((j 5), 40, .inl (fun _ => 0))), ((r 6), .inl ((j 4), 5, .inl (fun _ => 0))), ((r 1), .inl ((j 0), 4, .inl (upd (upd (upd (upd (fun _ => 0) 0 (-1)) 1 (-1)) 2 (-1)) 3 (-1))))]) [78, 84, 83, 79] rfl
    have hKc := hK.sub (tys' := [((j 5), .int), ((j 4), .int), ((j 0), .int)]) [61, 60, 56] rfl
    have hDc := hD.sub (ws' := [((r 0), .inr (12, [.int 0, .ref (r 1), .ref (r 2), .ref (r 3), .ref (r 4), .ref (r 5), .int 0, .int 0, .int 0, .int 0, .int 0, .long 0, .int 0, .int 0, .int 0, .int (-1), .ref (r 6), .ref (r 7), .ref (r 8), .ref (r 9), .ref (r 10), .ref (r 11), .ref (r 12), .ref (r 13), .int 0, .int 0, .int 0, .ref (r 14), .ref (r 15), .ref (r 16), .ref (r 17), .ref (r 18), .ref (r 19), .ref (r 20), .ref (r 21), .ref (r 22), .ref (r 23), .ref (r 24), .ref (r 25), .ref (r 26), .ref (r 27), .ref (r 28), .ref (r 29), .int 0, .int 0, .int 0, .ref (r 30), .int 0, .int 0, .int 0, .int 0, .int 0, .int 0, .ref (r 31), .int 0, .int 0, .int 0, .ref (r 32), .ref (r 33)])), ((r 7), .inl ((j 5), 40, .inl (fun _ => 0))), ((r 6), .inl ((j 4), 5, .inl (fun _ => 0))), ((r 1), .inl ((j 0), 4, .inl (upd (upd (upd (upd (fun _ => 0) 0 (-1)) 1 (-1)) 2 (-1)) 3 (-1))))]) [78, 84, 83, 79] (by decide) rfl
    have hFc := va_free (wc := [((r 0), .inr (12, [.int 0, .ref (r 1), .ref (r 2), .ref (r 3), .ref (r 4), .ref (r 5), .int 0, .int 0, .int 0, .int 0, .int 0, .long 0, .int 0, .int 0, .int 0, .int (-1), .ref (r 6), .ref (r 7), .ref (r 8), .ref (r 9), .ref (r 10), .ref (r 11), .ref (r 12), .ref (r 13), .int 0, .int 0, .int 0, .ref (r 14), .ref (r 15), .ref (r 16), .ref (r 17), .ref (r 18), .ref (r 19), .ref (r 20), .ref (r 21), .ref (r 22), .ref (r 23), .ref (r 24), .ref (r 25), .ref (r 26), .ref (r 27), .ref (r 28), .ref (r 29), .int 0, .int 0, .int 0, .ref (r 30), .int 0, .int 0, .int 0, .int 0, .int 0, .int 0, .ref (r 31), .int 0, .int 0, .int 0, .ref (r 32), .ref (r 33)])), ((r 7), .inl ((j 5), 40, .inl (fun _ => 0))), ((r 6), .inl ((j 4), 5, .inl (fun _ => 0))), ((r 1), .inl ((j 0), 4, .inl (upd (upd (upd (upd (fun _ => 0) 0 (-1)) 1 (-1)) 2 (-1)) 3 (-1))))]) hD hS hA [78, 84, 83, 79] rfl
    refine va_calli (va_runV (As := [.int (xs 1)]) (rest := [.int 0]) ⟨hx, hb, hml, hown, hts⟩ (f_X12_count l dC dI H.size ((r 0)) ((r 1)) ((r 2)) ((r 3)) ((r 4)) ((r 5)) ((r 6)) ((r 7)) ((r 8)) ((r 9)) ((r 10)) ((r 11)) ((r 12)) ((r 13)) ((r 14)) ((r 15)) ((r 16)) ((r 17)) ((r 18)) ((r 19)) ((r 20)) ((r 21)) ((r 22)) ((r 23)) ((r 24)) ((r 25)) ((r 26)) ((r 27)) ((r 28)) ((r 29)) ((r 30)) ((r 31)) ((r 32)) ((r 33)) ((j 5)) ((j 4)) ((j 0)) ((xs 1))) (cwV 1 hts (gk_V tw_1097 tw_1098 tw_1099 tw_505 wki_f_X12_count wkg_f_X12_count) rfl rfl rfl (by decide +kernel) ⟨Nat.le_of_ble_eq_true rfl, Nat.le_of_ble_eq_true rfl⟩) ⟨fun a U g mk q => by obtain ⟨q0, q1, qP, qK, qD⟩ := q; exact ⟨q0, q1, qP, va_K.moved (u := U) (U := U.calling g mk a) (Vm.Alike.refl U.vm) qK, qD⟩, va_recv hKc hPc (ci := 12) (q0 := 0) rfl rfl, fun U hU hW => ⟨rfl, by rw [hU], by rw [hU]; exact hPc, va_K.moved hW.alike hKc, hDc.weaken (fun _ _ _ _ => trivial)⟩⟩ rfl rfl hl.1 rfl (lv_room (Nat.le_of_ble_eq_true rfl)) dL_law_2060 ⟨Nat.le_of_ble_eq_true rfl, Nat.le_of_ble_eq_true rfl⟩) hS (fun q _ h => hFc q h) hFc (fun oz164 u t H1 locs ht hvm gz163 hB hz1 hk1 hS => ?_)
    generalize H1 = H at hS ⊢
    refine W.widen (k := 305) (n := 4995) (Nat.le_of_ble_eq_true rfl) (Nat.le_of_ble_eq_true rfl) ?_
    rcases gz163 with ⟨rfl, cz165, cz166, cz167, cz168⟩ | ⟨rfl, cz169, cz170, cz171⟩ | ⟨rfl, cz172, cz173, cz174, cz175⟩ | ⟨rfl, cz176, cz177, cz178, cz179, cz180⟩ | ⟨rfl, cz181, cz182, cz183, cz184, cz185⟩ | ⟨rfl, cz186, cz187⟩
    · skip
      have z0 : ¬ (xs 1).toInt = (0 : Int) := fun h9 => cz10 (zi_eq.mpr h9)
      have z1 : ¬ (xs 1).toInt = (1 : Int) := fun h9 => cz11 (zi_eq.mpr h9)
      have z2 : ¬ (xs 1).toInt = (2 : Int) := fun h9 => cz12 (zi_eq.mpr h9)
      have z3 : (xs 1).toInt = (3 : Int) := zi_eq.mp cz13
      have z4 : (xs 1).toInt < (0 : Int) := by have h9 := zi_ltL.mp cz165; simp only [Int32.toInt_toInt64] at h9; exact h9
      omega
    · skip
      have z0 : ¬ (xs 1).toInt = (0 : Int) := fun h9 => cz10 (zi_eq.mpr h9)
      have z1 : ¬ (xs 1).toInt = (1 : Int) := fun h9 => cz11 (zi_eq.mpr h9)
      have z2 : ¬ (xs 1).toInt = (2 : Int) := fun h9 => cz12 (zi_eq.mpr h9)
      have z3 : (xs 1).toInt = (3 : Int) := zi_eq.mp cz13
      have z4 : ¬ (xs 1).toInt < (0 : Int) := by intro h9; apply cz169; rw [zi_ltL]; simp only [Int32.toInt_toInt64]; exact h9
      have z5 : (7 : Int) < (xs 1).toInt := by have h9 := zi_ltL.mp cz170; simp only [Int32.toInt_toInt64] at h9; exact h9
      omega
    · skip
      have z0 : ¬ (xs 1).toInt = (0 : Int) := fun h9 => cz10 (zi_eq.mpr h9)
      have z1 : ¬ (xs 1).toInt = (1 : Int) := fun h9 => cz11 (zi_eq.mpr h9)
      have z2 : ¬ (xs 1).toInt = (2 : Int) := fun h9 => cz12 (zi_eq.mpr h9)
      have z3 : (xs 1).toInt = (3 : Int) := zi_eq.mp cz13
      have z4 : ¬ (xs 1).toInt < (0 : Int) := by intro h9; apply cz172; rw [zi_ltL]; simp only [Int32.toInt_toInt64]; exact h9
      have z5 : (7 : Int) < (xs 1).toInt := by have h9 := zi_ltL.mp cz173; simp only [Int32.toInt_toInt64] at h9; exact h9
      omega
    · skip
      have z0 : ¬ (xs 1).toInt = (0 : Int) := fun h9 => cz10 (zi_eq.mpr h9)
      have z1 : ¬ (xs 1).toInt = (1 : Int) := fun h9 => cz11 (zi_eq.mpr h9)
      have z2 : ¬ (xs 1).toInt = (2 : Int) := fun h9 => cz12 (zi_eq.mpr h9)
      have z3 : (xs 1).toInt = (3 : Int) := zi_eq.mp cz13
      have z4 : ¬ (xs 1).toInt < (0 : Int) := by intro h9; apply cz176; rw [zi_ltL]; simp only [Int32.toInt_toInt64]; exact h9
      have z5 : (7 : Int) < (xs 1).toInt := by have h9 := zi_ltL.mp cz177; simp only [Int32.toInt_toInt64] at h9; exact h9
      omega
    · skip
      have z0 : ¬ (xs 1).toInt = (0 : Int) := fun h9 => cz10 (zi_eq.mpr h9)
      have z1 : ¬ (xs 1).toInt = (1 : Int) := fun h9 => cz11 (zi_eq.mpr h9)
      have z2 : ¬ (xs 1).toInt = (2 : Int) := fun h9 => cz12 (zi_eq.mpr h9)
      have z3 : (xs 1).toInt = (3 : Int) := zi_eq.mp cz13
      have z4 : ¬ (xs 1).toInt < (0 : Int) := by intro h9; apply cz181; rw [zi_ltL]; simp only [Int32.toInt_toInt64]; exact h9
      have z5 : (7 : Int) < (xs 1).toInt := by have h9 := zi_ltL.mp cz182; simp only [Int32.toInt_toInt64] at h9; exact h9
      omega
    · skip
      refine lv_icmp_eq (tgt := 2293) hx hb dL_law_2063 (by decide) (fun cz188 => ?_) (fun cz188 => ?_)
      · skip
        exact law_end (dC := dC) (dI := dI) (Nat.le_of_eq hL6) C0 A hAe (q 0) (r 0) H locs hS ls hl
      · skip
        exact absurd cz188 (by decide)
  · skip
    refine lv_aload_n hx hb dL_law_2054 rfl (lv_at hl 2 rfl) ?_
    refine lv_aload_n hx hb dL_law_2055 rfl (lv_at hl 0 rfl) ?_
    refine lv_iload_n hx hb dL_law_2056 rfl (lv_at hl 3 rfl) ?_
    refine lv_iconst (v := 1) hx hb dL_law_2057 (by decide) ?_
    refine lv_iadd hx hb dL_law_2058 ?_
    refine lv_topi (fun xz189 exz189 => ?_)
    obtain rfl : xz189 = 1 := exz189.trans (by decide)
    refine va_sld hx hb hX hbl hbA hS (by rw [hL6]; unfold vp_in; decide) dL_law_2059 ?_
    refine W.eq (g2 := F0 m 2060 ls [.int (xs 1), .ref (r 0), .int 0]) rfl ?_
    have hPc := hP.sub (ws' := [((r 0), .inr (12, [.int 0, .ref (r 1), .ref (r 2), .ref (r 3), .ref (r 4), .ref (r 5), .int 0, .int 0, .int 0, .int 0, .int 0, .long 0, .int 0, .int 0, .int 0, .int (-1), .ref (r 6), .ref (r 7), .ref (r 8), .ref (r 9), .ref (r 10), .ref (r 11), .ref (r 12), .ref (r 13), .int 0, .int 0, .int 0, .ref (r 14), .ref (r 15), .ref (r 16), .ref (r 17), .ref (r 18), .ref (r 19), .ref (r 20), .ref (r 21), .ref (r 22), .ref (r 23), .ref (r 24), .ref (r 25), .ref (r 26), .ref (r 27), .ref (r 28), .ref (r 29), .int 0, .int 0, .int 0, .ref (r 30), .int 0, .int 0, .int 0, .int 0, .int 0, .int 0, .ref (r 31), .int 0, .int 0, .int 0, .ref (r 32), .ref (r 33)])), ((r 7), .inl ((j 5), 40, .inl (fun _ => 0))), ((r 6), .inl ((j 4), 5, .inl (fun _ => 0))), ((r 1), .inl ((j 0), 4, .inl (upd (upd (upd (upd (fun _ => 0) 0 (-1)) 1 (-1)) 2 (-1)) 3 (-1))))]) [78, 84, 83, 79] rfl
    have hKc := hK.sub (tys' := [((j 5), .int), ((j 4), .int), ((j 0), .int)]) [61, 60, 56] rfl
    have hDc := hD.sub (ws' := [((r 0), .inr (12, [.int 0, .ref (r 1), .ref (r 2), .ref (r 3), .ref (r 4), .ref (r 5), .int 0, .int 0, .int 0, .int 0, .int 0, .long 0, .int 0, .int 0, .int 0, .int (-1), .ref (r 6), .ref (r 7), .ref (r 8), .ref (r 9), .ref (r 10), .ref (r 11), .ref (r 12), .ref (r 13), .int 0, .int 0, .int 0, .ref (r 14), .ref (r 15), .ref (r 16), .ref (r 17), .ref (r 18), .ref (r 19), .ref (r 20), .ref (r 21), .ref (r 22), .ref (r 23), .ref (r 24), .ref (r 25), .ref (r 26), .ref (r 27), .ref (r 28), .ref (r 29), .int 0, .int 0, .int 0, .ref (r 30), .int 0, .int 0, .int 0, .int 0, .int 0, .int 0, .ref (r 31), .int 0, .int 0, .int 0, .ref (r 32), .ref (r 33)])), ((r 7), .inl ((j 5), 40, .inl (fun _ => 0))), ((r 6), .inl ((j 4), 5, .inl (fun _ => 0))), ((r 1), .inl ((j 0), 4, .inl (upd (upd (upd (upd (fun _ => 0) 0 (-1)) 1 (-1)) 2 (-1)) 3 (-1))))]) [78, 84, 83, 79] (by decide) rfl
    have hFc := va_free (wc := [((r 0), .inr (12, [.int 0, .ref (r 1), .ref (r 2), .ref (r 3), .ref (r 4), .ref (r 5), .int 0, .int 0, .int 0, .int 0, .int 0, .long 0, .int 0, .int 0, .int 0, .int (-1), .ref (r 6), .ref (r 7), .ref (r 8), .ref (r 9), .ref (r 10), .ref (r 11), .ref (r 12), .ref (r 13), .int 0, .int 0, .int 0, .ref (r 14), .ref (r 15), .ref (r 16), .ref (r 17), .ref (r 18), .ref (r 19), .ref (r 20), .ref (r 21), .ref (r 22), .ref (r 23), .ref (r 24), .ref (r 25), .ref (r 26), .ref (r 27), .ref (r 28), .ref (r 29), .int 0, .int 0, .int 0, .ref (r 30), .int 0, .int 0, .int 0, .int 0, .int 0, .int 0, .ref (r 31), .int 0, .int 0, .int 0, .ref (r 32), .ref (r 33)])), ((r 7), .inl ((j 5), 40, .inl (fun _ => 0))), ((r 6), .inl ((j 4), 5, .inl (fun _ => 0))), ((r 1), .inl ((j 0), 4, .inl (upd (upd (upd (upd (fun _ => 0) 0 (-1)) 1 (-1)) 2 (-1)) 3 (-1))))]) hD hS hA [78, 84, 83, 79] rfl
    refine va_calli (va_runV (As := [.int (xs 1)]) (rest := [.int 0]) ⟨hx, hb, hml, hown, hts⟩ (f_X12_count l dC dI H.size ((r 0)) ((r 1)) ((r 2)) ((r 3)) ((r 4)) ((r 5)) ((r 6)) ((r 7)) ((r 8)) ((r 9)) ((r 10)) ((r 11)) ((r 12)) ((r 13)) ((r 14)) ((r 15)) ((r 16)) ((r 17)) ((r 18)) ((r 19)) ((r 20)) ((r 21)) ((r 22)) ((r 23)) ((r 24)) ((r 25)) ((r 26)) ((r 27)) ((r 28)) ((r 29)) ((r 30)) ((r 31)) ((r 32)) ((r 33)) ((j 5)) ((j 4)) ((j 0)) ((xs 1))) (cwV 1 hts (gk_V tw_1097 tw_1098 tw_1099 tw_505 wki_f_X12_count wkg_f_X12_count) rfl rfl rfl (by decide +kernel) ⟨Nat.le_of_ble_eq_true rfl, Nat.le_of_ble_eq_true rfl⟩) ⟨fun a U g mk q => by obtain ⟨q0, q1, qP, qK, qD⟩ := q; exact ⟨q0, q1, qP, va_K.moved (u := U) (U := U.calling g mk a) (Vm.Alike.refl U.vm) qK, qD⟩, va_recv hKc hPc (ci := 12) (q0 := 0) rfl rfl, fun U hU hW => ⟨rfl, by rw [hU], by rw [hU]; exact hPc, va_K.moved hW.alike hKc, hDc.weaken (fun _ _ _ _ => trivial)⟩⟩ rfl rfl hl.1 rfl (lv_room (Nat.le_of_ble_eq_true rfl)) dL_law_2060 ⟨Nat.le_of_ble_eq_true rfl, Nat.le_of_ble_eq_true rfl⟩) hS (fun q _ h => hFc q h) hFc (fun oz191 u t H1 locs ht hvm gz190 hB hz1 hk1 hS => ?_)
    generalize H1 = H at hS ⊢
    refine W.widen (k := 305) (n := 4995) (Nat.le_of_ble_eq_true rfl) (Nat.le_of_ble_eq_true rfl) ?_
    rcases gz190 with ⟨rfl, cz192, cz193, cz194, cz195⟩ | ⟨rfl, cz196, cz197, cz198⟩ | ⟨rfl, cz199, cz200, cz201, cz202⟩ | ⟨rfl, cz203, cz204, cz205, cz206, cz207⟩ | ⟨rfl, cz208, cz209, cz210, cz211, cz212⟩ | ⟨rfl, cz213, cz214⟩
    · skip
      have z0 : ¬ (xs 1).toInt = (0 : Int) := fun h9 => cz14 (zi_eq.mpr h9)
      have z1 : ¬ (xs 1).toInt = (1 : Int) := fun h9 => cz15 (zi_eq.mpr h9)
      have z2 : ¬ (xs 1).toInt = (2 : Int) := fun h9 => cz16 (zi_eq.mpr h9)
      have z3 : ¬ (xs 1).toInt = (3 : Int) := fun h9 => cz17 (zi_eq.mpr h9)
      have z4 : (xs 1).toInt = (4 : Int) := zi_eq.mp cz18
      have z5 : (xs 1).toInt < (0 : Int) := by have h9 := zi_ltL.mp cz192; simp only [Int32.toInt_toInt64] at h9; exact h9
      omega
    · skip
      have z0 : ¬ (xs 1).toInt = (0 : Int) := fun h9 => cz14 (zi_eq.mpr h9)
      have z1 : ¬ (xs 1).toInt = (1 : Int) := fun h9 => cz15 (zi_eq.mpr h9)
      have z2 : ¬ (xs 1).toInt = (2 : Int) := fun h9 => cz16 (zi_eq.mpr h9)
      have z3 : ¬ (xs 1).toInt = (3 : Int) := fun h9 => cz17 (zi_eq.mpr h9)
      have z4 : (xs 1).toInt = (4 : Int) := zi_eq.mp cz18
      have z5 : ¬ (xs 1).toInt < (0 : Int) := by intro h9; apply cz196; rw [zi_ltL]; simp only [Int32.toInt_toInt64]; exact h9
      have z6 : (7 : Int) < (xs 1).toInt := by have h9 := zi_ltL.mp cz197; simp only [Int32.toInt_toInt64] at h9; exact h9
      omega
    · skip
      have z0 : ¬ (xs 1).toInt = (0 : Int) := fun h9 => cz14 (zi_eq.mpr h9)
      have z1 : ¬ (xs 1).toInt = (1 : Int) := fun h9 => cz15 (zi_eq.mpr h9)
      have z2 : ¬ (xs 1).toInt = (2 : Int) := fun h9 => cz16 (zi_eq.mpr h9)
      have z3 : ¬ (xs 1).toInt = (3 : Int) := fun h9 => cz17 (zi_eq.mpr h9)
      have z4 : (xs 1).toInt = (4 : Int) := zi_eq.mp cz18
      have z5 : ¬ (xs 1).toInt < (0 : Int) := by intro h9; apply cz199; rw [zi_ltL]; simp only [Int32.toInt_toInt64]; exact h9
      have z6 : (7 : Int) < (xs 1).toInt := by have h9 := zi_ltL.mp cz200; simp only [Int32.toInt_toInt64] at h9; exact h9
      omega
    · skip
      have z0 : ¬ (xs 1).toInt = (0 : Int) := fun h9 => cz14 (zi_eq.mpr h9)
      have z1 : ¬ (xs 1).toInt = (1 : Int) := fun h9 => cz15 (zi_eq.mpr h9)
      have z2 : ¬ (xs 1).toInt = (2 : Int) := fun h9 => cz16 (zi_eq.mpr h9)
      have z3 : ¬ (xs 1).toInt = (3 : Int) := fun h9 => cz17 (zi_eq.mpr h9)
      have z4 : (xs 1).toInt = (4 : Int) := zi_eq.mp cz18
      have z5 : ¬ (xs 1).toInt < (0 : Int) := by intro h9; apply cz203; rw [zi_ltL]; simp only [Int32.toInt_toInt64]; exact h9
      have z6 : (7 : Int) < (xs 1).toInt := by have h9 := zi_ltL.mp cz204; simp only [Int32.toInt_toInt64] at h9; exact h9
      omega
    · skip
      have z0 : ¬ (xs 1).toInt = (0 : Int) := fun h9 => cz14 (zi_eq.mpr h9)
      have z1 : ¬ (xs 1).toInt = (1 : Int) := fun h9 => cz15 (zi_eq.mpr h9)
      have z2 : ¬ (xs 1).toInt = (2 : Int) := fun h9 => cz16 (zi_eq.mpr h9)
      have z3 : ¬ (xs 1).toInt = (3 : Int) := fun h9 => cz17 (zi_eq.mpr h9)
      have z4 : (xs 1).toInt = (4 : Int) := zi_eq.mp cz18
      have z5 : ¬ (xs 1).toInt < (0 : Int) := by intro h9; apply cz208; rw [zi_ltL]; simp only [Int32.toInt_toInt64]; exact h9
      have z6 : (7 : Int) < (xs 1).toInt := by have h9 := zi_ltL.mp cz209; simp only [Int32.toInt_toInt64] at h9; exact h9
      omega
    · skip
      refine lv_icmp_eq (tgt := 2293) hx hb dL_law_2063 (by decide) (fun cz215 => ?_) (fun cz215 => ?_)
      · skip
        exact law_end (dC := dC) (dI := dI) (Nat.le_of_eq hL6) C0 A hAe (q 0) (r 0) H locs hS ls hl
      · skip
        exact absurd cz215 (by decide)
  · skip
    refine lv_aload_n hx hb dL_law_2054 rfl (lv_at hl 2 rfl) ?_
    refine lv_aload_n hx hb dL_law_2055 rfl (lv_at hl 0 rfl) ?_
    refine lv_iload_n hx hb dL_law_2056 rfl (lv_at hl 3 rfl) ?_
    refine lv_iconst (v := 1) hx hb dL_law_2057 (by decide) ?_
    refine lv_iadd hx hb dL_law_2058 ?_
    refine lv_topi (fun xz216 exz216 => ?_)
    obtain rfl : xz216 = 1 := exz216.trans (by decide)
    refine va_sld hx hb hX hbl hbA hS (by rw [hL6]; unfold vp_in; decide) dL_law_2059 ?_
    refine W.eq (g2 := F0 m 2060 ls [.int (xs 1), .ref (r 0), .int 0]) rfl ?_
    have hPc := hP.sub (ws' := [((r 0), .inr (12, [.int 0, .ref (r 1), .ref (r 2), .ref (r 3), .ref (r 4), .ref (r 5), .int 0, .int 0, .int 0, .int 0, .int 0, .long 0, .int 0, .int 0, .int 0, .int (-1), .ref (r 6), .ref (r 7), .ref (r 8), .ref (r 9), .ref (r 10), .ref (r 11), .ref (r 12), .ref (r 13), .int 0, .int 0, .int 0, .ref (r 14), .ref (r 15), .ref (r 16), .ref (r 17), .ref (r 18), .ref (r 19), .ref (r 20), .ref (r 21), .ref (r 22), .ref (r 23), .ref (r 24), .ref (r 25), .ref (r 26), .ref (r 27), .ref (r 28), .ref (r 29), .int 0, .int 0, .int 0, .ref (r 30), .int 0, .int 0, .int 0, .int 0, .int 0, .int 0, .ref (r 31), .int 0, .int 0, .int 0, .ref (r 32), .ref (r 33)])), ((r 7), .inl ((j 5), 40, .inl (fun _ => 0))), ((r 6), .inl ((j 4), 5, .inl (fun _ => 0))), ((r 1), .inl ((j 0), 4, .inl (upd (upd (upd (upd (fun _ => 0) 0 (-1)) 1 (-1)) 2 (-1)) 3 (-1))))]) [78, 84, 83, 79] rfl
    have hKc := hK.sub (tys' := [((j 5), .int), ((j 4), .int), ((j 0), .int)]) [61, 60, 56] rfl
    have hDc := hD.sub (ws' := [((r 0), .inr (12, [.int 0, .ref (r 1), .ref (r 2), .ref (r 3), .ref (r 4), .ref (r 5), .int 0, .int 0, .int 0, .int 0, .int 0, .long 0, .int 0, .int 0, .int 0, .int (-1), .ref (r 6), .ref (r 7), .ref (r 8), .ref (r 9), .ref (r 10), .ref (r 11), .ref (r 12), .ref (r 13), .int 0, .int 0, .int 0, .ref (r 14), .ref (r 15), .ref (r 16), .ref (r 17), .ref (r 18), .ref (r 19), .ref (r 20), .ref (r 21), .ref (r 22), .ref (r 23), .ref (r 24), .ref (r 25), .ref (r 26), .ref (r 27), .ref (r 28), .ref (r 29), .int 0, .int 0, .int 0, .ref (r 30), .int 0, .int 0, .int 0, .int 0, .int 0, .int 0, .ref (r 31), .int 0, .int 0, .int 0, .ref (r 32), .ref (r 33)])), ((r 7), .inl ((j 5), 40, .inl (fun _ => 0))), ((r 6), .inl ((j 4), 5, .inl (fun _ => 0))), ((r 1), .inl ((j 0), 4, .inl (upd (upd (upd (upd (fun _ => 0) 0 (-1)) 1 (-1)) 2 (-1)) 3 (-1))))]) [78, 84, 83, 79] (by decide) rfl
    have hFc := va_free (wc := [((r 0), .inr (12, [.int 0, .ref (r 1), .ref (r 2), .ref (r 3), .ref (r 4), .ref (r 5), .int 0, .int 0, .int 0, .int 0, .int 0, .long 0, .int 0, .int 0, .int 0, .int (-1), .ref (r 6), .ref (r 7), .ref (r 8), .ref (r 9), .ref (r 10), .ref (r 11), .ref (r 12), .ref (r 13), .int 0, .int 0, .int 0, .ref (r 14), .ref (r 15), .ref (r 16), .ref (r 17), .ref (r 18), .ref (r 19), .ref (r 20), .ref (r 21), .ref (r 22), .ref (r 23), .ref (r 24), .ref (r 25), .ref (r 26), .ref (r 27), .ref (r 28), .ref (r 29), .int 0, .int 0, .int 0, .ref (r 30), .int 0, .int 0, .int 0, .int 0, .int 0, .int 0, .ref (r 31), .int 0, .int 0, .int 0, .ref (r 32), .ref (r 33)])), ((r 7), .inl ((j 5), 40, .inl (fun _ => 0))), ((r 6), .inl ((j 4), 5, .inl (fun _ => 0))), ((r 1), .inl ((j 0), 4, .inl (upd (upd (upd (upd (fun _ => 0) 0 (-1)) 1 (-1)) 2 (-1)) 3 (-1))))]) hD hS hA [78, 84, 83, 79] rfl
    refine va_calli (va_runV (As := [.int (xs 1)]) (rest := [.int 0]) ⟨hx, hb, hml, hown, hts⟩ (f_X12_count l dC dI H.size ((r 0)) ((r 1)) ((r 2)) ((r 3)) ((r 4)) ((r 5)) ((r 6)) ((r 7)) ((r 8)) ((r 9)) ((r 10)) ((r 11)) ((r 12)) ((r 13)) ((r 14)) ((r 15)) ((r 16)) ((r 17)) ((r 18)) ((r 19)) ((r 20)) ((r 21)) ((r 22)) ((r 23)) ((r 24)) ((r 25)) ((r 26)) ((r 27)) ((r 28)) ((r 29)) ((r 30)) ((r 31)) ((r 32)) ((r 33)) ((j 5)) ((j 4)) ((j 0)) ((xs 1))) (cwV 1 hts (gk_V tw_1097 tw_1098 tw_1099 tw_505 wki_f_X12_count wkg_f_X12_count) rfl rfl rfl (by decide +kernel) ⟨Nat.le_of_ble_eq_true rfl, Nat.le_of_ble_eq_true rfl⟩) ⟨fun a U g mk q => by obtain ⟨q0, q1, qP, qK, qD⟩ := q; exact ⟨q0, q1, qP, va_K.moved (u := U) (U := U.calling g mk a) (Vm.Alike.refl U.vm) qK, qD⟩, va_recv hKc hPc (ci := 12) (q0 := 0) rfl rfl, fun U hU hW => ⟨rfl, by rw [hU], by rw [hU]; exact hPc, va_K.moved hW.alike hKc, hDc.weaken (fun _ _ _ _ => trivial)⟩⟩ rfl rfl hl.1 rfl (lv_room (Nat.le_of_ble_eq_true rfl)) dL_law_2060 ⟨Nat.le_of_ble_eq_true rfl, Nat.le_of_ble_eq_true rfl⟩) hS (fun q _ h => hFc q h) hFc (fun oz218 u t H1 locs ht hvm gz217 hB hz1 hk1 hS => ?_)
    generalize H1 = H at hS ⊢
    refine W.widen (k := 305) (n := 4995) (Nat.le_of_ble_eq_true rfl) (Nat.le_of_ble_eq_true rfl) ?_
    rcases gz217 with ⟨rfl, cz219, cz220, cz221, cz222⟩ | ⟨rfl, cz223, cz224, cz225⟩ | ⟨rfl, cz226, cz227, cz228, cz229⟩ | ⟨rfl, cz230, cz231, cz232, cz233, cz234⟩ | ⟨rfl, cz235, cz236, cz237, cz238, cz239⟩ | ⟨rfl, cz240, cz241⟩
    · skip
      have z0 : ¬ (xs 1).toInt = (0 : Int) := fun h9 => cz19 (zi_eq.mpr h9)
      have z1 : ¬ (xs 1).toInt = (1 : Int) := fun h9 => cz20 (zi_eq.mpr h9)
      have z2 : ¬ (xs 1).toInt = (2 : Int) := fun h9 => cz21 (zi_eq.mpr h9)
      have z3 : ¬ (xs 1).toInt = (3 : Int) := fun h9 => cz22 (zi_eq.mpr h9)
      have z4 : ¬ (xs 1).toInt = (4 : Int) := fun h9 => cz23 (zi_eq.mpr h9)
      have z5 : (xs 1).toInt = (5 : Int) := zi_eq.mp cz24
      have z6 : (xs 1).toInt < (0 : Int) := by have h9 := zi_ltL.mp cz219; simp only [Int32.toInt_toInt64] at h9; exact h9
      omega
    · skip
      have z0 : ¬ (xs 1).toInt = (0 : Int) := fun h9 => cz19 (zi_eq.mpr h9)
      have z1 : ¬ (xs 1).toInt = (1 : Int) := fun h9 => cz20 (zi_eq.mpr h9)
      have z2 : ¬ (xs 1).toInt = (2 : Int) := fun h9 => cz21 (zi_eq.mpr h9)
      have z3 : ¬ (xs 1).toInt = (3 : Int) := fun h9 => cz22 (zi_eq.mpr h9)
      have z4 : ¬ (xs 1).toInt = (4 : Int) := fun h9 => cz23 (zi_eq.mpr h9)
      have z5 : (xs 1).toInt = (5 : Int) := zi_eq.mp cz24
      have z6 : ¬ (xs 1).toInt < (0 : Int) := by intro h9; apply cz223; rw [zi_ltL]; simp only [Int32.toInt_toInt64]; exact h9
      have z7 : (7 : Int) < (xs 1).toInt := by have h9 := zi_ltL.mp cz224; simp only [Int32.toInt_toInt64] at h9; exact h9
      omega
    · skip
      have z0 : ¬ (xs 1).toInt = (0 : Int) := fun h9 => cz19 (zi_eq.mpr h9)
      have z1 : ¬ (xs 1).toInt = (1 : Int) := fun h9 => cz20 (zi_eq.mpr h9)
      have z2 : ¬ (xs 1).toInt = (2 : Int) := fun h9 => cz21 (zi_eq.mpr h9)
      have z3 : ¬ (xs 1).toInt = (3 : Int) := fun h9 => cz22 (zi_eq.mpr h9)
      have z4 : ¬ (xs 1).toInt = (4 : Int) := fun h9 => cz23 (zi_eq.mpr h9)
      have z5 : (xs 1).toInt = (5 : Int) := zi_eq.mp cz24
      have z6 : ¬ (xs 1).toInt < (0 : Int) := by intro h9; apply cz226; rw [zi_ltL]; simp only [Int32.toInt_toInt64]; exact h9
      have z7 : (7 : Int) < (xs 1).toInt := by have h9 := zi_ltL.mp cz227; simp only [Int32.toInt_toInt64] at h9; exact h9
      omega
    · skip
      have z0 : ¬ (xs 1).toInt = (0 : Int) := fun h9 => cz19 (zi_eq.mpr h9)
      have z1 : ¬ (xs 1).toInt = (1 : Int) := fun h9 => cz20 (zi_eq.mpr h9)
      have z2 : ¬ (xs 1).toInt = (2 : Int) := fun h9 => cz21 (zi_eq.mpr h9)
      have z3 : ¬ (xs 1).toInt = (3 : Int) := fun h9 => cz22 (zi_eq.mpr h9)
      have z4 : ¬ (xs 1).toInt = (4 : Int) := fun h9 => cz23 (zi_eq.mpr h9)
      have z5 : (xs 1).toInt = (5 : Int) := zi_eq.mp cz24
      have z6 : ¬ (xs 1).toInt < (0 : Int) := by intro h9; apply cz230; rw [zi_ltL]; simp only [Int32.toInt_toInt64]; exact h9
      have z7 : (7 : Int) < (xs 1).toInt := by have h9 := zi_ltL.mp cz231; simp only [Int32.toInt_toInt64] at h9; exact h9
      omega
    · skip
      have z0 : ¬ (xs 1).toInt = (0 : Int) := fun h9 => cz19 (zi_eq.mpr h9)
      have z1 : ¬ (xs 1).toInt = (1 : Int) := fun h9 => cz20 (zi_eq.mpr h9)
      have z2 : ¬ (xs 1).toInt = (2 : Int) := fun h9 => cz21 (zi_eq.mpr h9)
      have z3 : ¬ (xs 1).toInt = (3 : Int) := fun h9 => cz22 (zi_eq.mpr h9)
      have z4 : ¬ (xs 1).toInt = (4 : Int) := fun h9 => cz23 (zi_eq.mpr h9)
      have z5 : (xs 1).toInt = (5 : Int) := zi_eq.mp cz24
      have z6 : ¬ (xs 1).toInt < (0 : Int) := by intro h9; apply cz235; rw [zi_ltL]; simp only [Int32.toInt_toInt64]; exact h9
      have z7 : (7 : Int) < (xs 1).toInt := by have h9 := zi_ltL.mp cz236; simp only [Int32.toInt_toInt64] at h9; exact h9
      omega
    · skip
      refine lv_icmp_eq (tgt := 2293) hx hb dL_law_2063 (by decide) (fun cz242 => ?_) (fun cz242 => ?_)
      · skip
        exact law_end (dC := dC) (dI := dI) (Nat.le_of_eq hL6) C0 A hAe (q 0) (r 0) H locs hS ls hl
      · skip
        exact absurd cz242 (by decide)
  · skip
    refine lv_aload_n hx hb dL_law_2054 rfl (lv_at hl 2 rfl) ?_
    refine lv_aload_n hx hb dL_law_2055 rfl (lv_at hl 0 rfl) ?_
    refine lv_iload_n hx hb dL_law_2056 rfl (lv_at hl 3 rfl) ?_
    refine lv_iconst (v := 1) hx hb dL_law_2057 (by decide) ?_
    refine lv_iadd hx hb dL_law_2058 ?_
    refine lv_topi (fun xz243 exz243 => ?_)
    obtain rfl : xz243 = 1 := exz243.trans (by decide)
    refine va_sld hx hb hX hbl hbA hS (by rw [hL6]; unfold vp_in; decide) dL_law_2059 ?_
    refine W.eq (g2 := F0 m 2060 ls [.int (xs 1), .ref (r 0), .int 0]) rfl ?_
    have hPc := hP.sub (ws' := [((r 0), .inr (12, [.int 0, .ref (r 1), .ref (r 2), .ref (r 3), .ref (r 4), .ref (r 5), .int 0, .int 0, .int 0, .int 0, .int 0, .long 0, .int 0, .int 0, .int 0, .int (-1), .ref (r 6), .ref (r 7), .ref (r 8), .ref (r 9), .ref (r 10), .ref (r 11), .ref (r 12), .ref (r 13), .int 0, .int 0, .int 0, .ref (r 14), .ref (r 15), .ref (r 16), .ref (r 17), .ref (r 18), .ref (r 19), .ref (r 20), .ref (r 21), .ref (r 22), .ref (r 23), .ref (r 24), .ref (r 25), .ref (r 26), .ref (r 27), .ref (r 28), .ref (r 29), .int 0, .int 0, .int 0, .ref (r 30), .int 0, .int 0, .int 0, .int 0, .int 0, .int 0, .ref (r 31), .int 0, .int 0, .int 0, .ref (r 32), .ref (r 33)])), ((r 7), .inl ((j 5), 40, .inl (fun _ => 0))), ((r 6), .inl ((j 4), 5, .inl (fun _ => 0))), ((r 1), .inl ((j 0), 4, .inl (upd (upd (upd (upd (fun _ => 0) 0 (-1)) 1 (-1)) 2 (-1)) 3 (-1))))]) [78, 84, 83, 79] rfl
    have hKc := hK.sub (tys' := [((j 5), .int), ((j 4), .int), ((j 0), .int)]) [61, 60, 56] rfl
    have hDc := hD.sub (ws' := [((r 0), .inr (12, [.int 0, .ref (r 1), .ref (r 2), .ref (r 3), .ref (r 4), .ref (r 5), .int 0, .int 0, .int 0, .int 0, .int 0, .long 0, .int 0, .int 0, .int 0, .int (-1), .ref (r 6), .ref (r 7), .ref (r 8), .ref (r 9), .ref (r 10), .ref (r 11), .ref (r 12), .ref (r 13), .int 0, .int 0, .int 0, .ref (r 14), .ref (r 15), .ref (r 16), .ref (r 17), .ref (r 18), .ref (r 19), .ref (r 20), .ref (r 21), .ref (r 22), .ref (r 23), .ref (r 24), .ref (r 25), .ref (r 26), .ref (r 27), .ref (r 28), .ref (r 29), .int 0, .int 0, .int 0, .ref (r 30), .int 0, .int 0, .int 0, .int 0, .int 0, .int 0, .ref (r 31), .int 0, .int 0, .int 0, .ref (r 32), .ref (r 33)])), ((r 7), .inl ((j 5), 40, .inl (fun _ => 0))), ((r 6), .inl ((j 4), 5, .inl (fun _ => 0))), ((r 1), .inl ((j 0), 4, .inl (upd (upd (upd (upd (fun _ => 0) 0 (-1)) 1 (-1)) 2 (-1)) 3 (-1))))]) [78, 84, 83, 79] (by decide) rfl
    have hFc := va_free (wc := [((r 0), .inr (12, [.int 0, .ref (r 1), .ref (r 2), .ref (r 3), .ref (r 4), .ref (r 5), .int 0, .int 0, .int 0, .int 0, .int 0, .long 0, .int 0, .int 0, .int 0, .int (-1), .ref (r 6), .ref (r 7), .ref (r 8), .ref (r 9), .ref (r 10), .ref (r 11), .ref (r 12), .ref (r 13), .int 0, .int 0, .int 0, .ref (r 14), .ref (r 15), .ref (r 16), .ref (r 17), .ref (r 18), .ref (r 19), .ref (r 20), .ref (r 21), .ref (r 22), .ref (r 23), .ref (r 24), .ref (r 25), .ref (r 26), .ref (r 27), .ref (r 28), .ref (r 29), .int 0, .int 0, .int 0, .ref (r 30), .int 0, .int 0, .int 0, .int 0, .int 0, .int 0, .ref (r 31), .int 0, .int 0, .int 0, .ref (r 32), .ref (r 33)])), ((r 7), .inl ((j 5), 40, .inl (fun _ => 0))), ((r 6), .inl ((j 4), 5, .inl (fun _ => 0))), ((r 1), .inl ((j 0), 4, .inl (upd (upd (upd (upd (fun _ => 0) 0 (-1)) 1 (-1)) 2 (-1)) 3 (-1))))]) hD hS hA [78, 84, 83, 79] rfl
    refine va_calli (va_runV (As := [.int (xs 1)]) (rest := [.int 0]) ⟨hx, hb, hml, hown, hts⟩ (f_X12_count l dC dI H.size ((r 0)) ((r 1)) ((r 2)) ((r 3)) ((r 4)) ((r 5)) ((r 6)) ((r 7)) ((r 8)) ((r 9)) ((r 10)) ((r 11)) ((r 12)) ((r 13)) ((r 14)) ((r 15)) ((r 16)) ((r 17)) ((r 18)) ((r 19)) ((r 20)) ((r 21)) ((r 22)) ((r 23)) ((r 24)) ((r 25)) ((r 26)) ((r 27)) ((r 28)) ((r 29)) ((r 30)) ((r 31)) ((r 32)) ((r 33)) ((j 5)) ((j 4)) ((j 0)) ((xs 1))) (cwV 1 hts (gk_V tw_1097 tw_1098 tw_1099 tw_505 wki_f_X12_count wkg_f_X12_count) rfl rfl rfl (by decide +kernel) ⟨Nat.le_of_ble_eq_true rfl, Nat.le_of_ble_eq_true rfl⟩) ⟨fun a U g mk q => by obtain ⟨q0, q1, qP, qK, qD⟩ := q; exact ⟨q0, q1, qP, va_K.moved (u := U) (U := U.calling g mk a) (Vm.Alike.refl U.vm) qK, qD⟩, va_recv hKc hPc (ci := 12) (q0 := 0) rfl rfl, fun U hU hW => ⟨rfl, by rw [hU], by rw [hU]; exact hPc, va_K.moved hW.alike hKc, hDc.weaken (fun _ _ _ _ => trivial)⟩⟩ rfl rfl hl.1 rfl (lv_room (Nat.le_of_ble_eq_true rfl)) dL_law_2060 ⟨Nat.le_of_ble_eq_true rfl, Nat.le_of_ble_eq_true rfl⟩) hS (fun q _ h => hFc q h) hFc (fun oz245 u t H1 locs ht hvm gz244 hB hz1 hk1 hS => ?_)
    generalize H1 = H at hS ⊢
    refine W.widen (k := 305) (n := 4995) (Nat.le_of_ble_eq_true rfl) (Nat.le_of_ble_eq_true rfl) ?_
    rcases gz244 with ⟨rfl, cz246, cz247, cz248, cz249⟩ | ⟨rfl, cz250, cz251, cz252⟩ | ⟨rfl, cz253, cz254, cz255, cz256⟩ | ⟨rfl, cz257, cz258, cz259, cz260, cz261⟩ | ⟨rfl, cz262, cz263, cz264, cz265, cz266⟩ | ⟨rfl, cz267, cz268⟩
    · skip
      have z0 : ¬ (xs 1).toInt = (0 : Int) := fun h9 => cz25 (zi_eq.mpr h9)
      have z1 : ¬ (xs 1).toInt = (1 : Int) := fun h9 => cz26 (zi_eq.mpr h9)
      have z2 : ¬ (xs 1).toInt = (2 : Int) := fun h9 => cz27 (zi_eq.mpr h9)
      have z3 : ¬ (xs 1).toInt = (3 : Int) := fun h9 => cz28 (zi_eq.mpr h9)
      have z4 : ¬ (xs 1).toInt = (4 : Int) := fun h9 => cz29 (zi_eq.mpr h9)
      have z5 : ¬ (xs 1).toInt = (5 : Int) := fun h9 => cz30 (zi_eq.mpr h9)
      have z6 : (xs 1).toInt = (6 : Int) := zi_eq.mp cz31
      have z7 : (xs 1).toInt < (0 : Int) := by have h9 := zi_ltL.mp cz246; simp only [Int32.toInt_toInt64] at h9; exact h9
      omega
    · skip
      have z0 : ¬ (xs 1).toInt = (0 : Int) := fun h9 => cz25 (zi_eq.mpr h9)
      have z1 : ¬ (xs 1).toInt = (1 : Int) := fun h9 => cz26 (zi_eq.mpr h9)
      have z2 : ¬ (xs 1).toInt = (2 : Int) := fun h9 => cz27 (zi_eq.mpr h9)
      have z3 : ¬ (xs 1).toInt = (3 : Int) := fun h9 => cz28 (zi_eq.mpr h9)
      have z4 : ¬ (xs 1).toInt = (4 : Int) := fun h9 => cz29 (zi_eq.mpr h9)
      have z5 : ¬ (xs 1).toInt = (5 : Int) := fun h9 => cz30 (zi_eq.mpr h9)
      have z6 : (xs 1).toInt = (6 : Int) := zi_eq.mp cz31
      have z7 : ¬ (xs 1).toInt < (0 : Int) := by intro h9; apply cz250; rw [zi_ltL]; simp only [Int32.toInt_toInt64]; exact h9
      have z8 : (7 : Int) < (xs 1).toInt := by have h9 := zi_ltL.mp cz251; simp only [Int32.toInt_toInt64] at h9; exact h9
      omega
    · skip
      have z0 : ¬ (xs 1).toInt = (0 : Int) := fun h9 => cz25 (zi_eq.mpr h9)
      have z1 : ¬ (xs 1).toInt = (1 : Int) := fun h9 => cz26 (zi_eq.mpr h9)
      have z2 : ¬ (xs 1).toInt = (2 : Int) := fun h9 => cz27 (zi_eq.mpr h9)
      have z3 : ¬ (xs 1).toInt = (3 : Int) := fun h9 => cz28 (zi_eq.mpr h9)
      have z4 : ¬ (xs 1).toInt = (4 : Int) := fun h9 => cz29 (zi_eq.mpr h9)
      have z5 : ¬ (xs 1).toInt = (5 : Int) := fun h9 => cz30 (zi_eq.mpr h9)
      have z6 : (xs 1).toInt = (6 : Int) := zi_eq.mp cz31
      have z7 : ¬ (xs 1).toInt < (0 : Int) := by intro h9; apply cz253; rw [zi_ltL]; simp only [Int32.toInt_toInt64]; exact h9
      have z8 : (7 : Int) < (xs 1).toInt := by have h9 := zi_ltL.mp cz254; simp only [Int32.toInt_toInt64] at h9; exact h9
      omega
    · skip
      have z0 : ¬ (xs 1).toInt = (0 : Int) := fun h9 => cz25 (zi_eq.mpr h9)
      have z1 : ¬ (xs 1).toInt = (1 : Int) := fun h9 => cz26 (zi_eq.mpr h9)
      have z2 : ¬ (xs 1).toInt = (2 : Int) := fun h9 => cz27 (zi_eq.mpr h9)
      have z3 : ¬ (xs 1).toInt = (3 : Int) := fun h9 => cz28 (zi_eq.mpr h9)
      have z4 : ¬ (xs 1).toInt = (4 : Int) := fun h9 => cz29 (zi_eq.mpr h9)
      have z5 : ¬ (xs 1).toInt = (5 : Int) := fun h9 => cz30 (zi_eq.mpr h9)
      have z6 : (xs 1).toInt = (6 : Int) := zi_eq.mp cz31
      have z7 : ¬ (xs 1).toInt < (0 : Int) := by intro h9; apply cz257; rw [zi_ltL]; simp only [Int32.toInt_toInt64]; exact h9
      have z8 : (7 : Int) < (xs 1).toInt := by have h9 := zi_ltL.mp cz258; simp only [Int32.toInt_toInt64] at h9; exact h9
      omega
    · skip
      have z0 : ¬ (xs 1).toInt = (0 : Int) := fun h9 => cz25 (zi_eq.mpr h9)
      have z1 : ¬ (xs 1).toInt = (1 : Int) := fun h9 => cz26 (zi_eq.mpr h9)
      have z2 : ¬ (xs 1).toInt = (2 : Int) := fun h9 => cz27 (zi_eq.mpr h9)
      have z3 : ¬ (xs 1).toInt = (3 : Int) := fun h9 => cz28 (zi_eq.mpr h9)
      have z4 : ¬ (xs 1).toInt = (4 : Int) := fun h9 => cz29 (zi_eq.mpr h9)
      have z5 : ¬ (xs 1).toInt = (5 : Int) := fun h9 => cz30 (zi_eq.mpr h9)
      have z6 : (xs 1).toInt = (6 : Int) := zi_eq.mp cz31
      have z7 : ¬ (xs 1).toInt < (0 : Int) := by intro h9; apply cz262; rw [zi_ltL]; simp only [Int32.toInt_toInt64]; exact h9
      have z8 : (7 : Int) < (xs 1).toInt := by have h9 := zi_ltL.mp cz263; simp only [Int32.toInt_toInt64] at h9; exact h9
      omega
    · skip
      refine lv_icmp_eq (tgt := 2293) hx hb dL_law_2063 (by decide) (fun cz269 => ?_) (fun cz269 => ?_)
      · skip
        exact law_end (dC := dC) (dI := dI) (Nat.le_of_eq hL6) C0 A hAe (q 0) (r 0) H locs hS ls hl
      · skip
        exact absurd cz269 (by decide)
  · skip
    refine lv_aload_n hx hb dL_law_2054 rfl (lv_at hl 2 rfl) ?_
    refine lv_aload_n hx hb dL_law_2055 rfl (lv_at hl 0 rfl) ?_
    refine lv_iload_n hx hb dL_law_2056 rfl (lv_at hl 3 rfl) ?_
    refine lv_iconst (v := 1) hx hb dL_law_2057 (by decide) ?_
    refine lv_iadd hx hb dL_law_2058 ?_
    refine lv_topi (fun xz270 exz270 => ?_)
    obtain rfl : xz270 = 1 := exz270.trans (by decide)
    refine va_sld hx hb hX hbl hbA hS (by rw [hL6]; unfold vp_in; decide) dL_law_2059 ?_
    refine W.eq (g2 := F0 m 2060 ls [.int (xs 1), .ref (r 0), .int 0]) rfl ?_
    have hPc := hP.sub (ws' := [((r 0), .inr (12, [.int 0, .ref (r 1), .ref (r 2), .ref (r 3), .ref (r 4), .ref (r 5), .int 0, .int 0, .int 0, .int 0, .int 0, .long 0, .int 0, .int 0, .int 0, .int (-1), .ref (r 6), .ref (r 7), .ref (r 8), .ref (r 9), .ref (r 10), .ref (r 11), .ref (r 12), .ref (r 13), .int 0, .int 0, .int 0, .ref (r 14), .ref (r 15), .ref (r 16), .ref (r 17), .ref (r 18), .ref (r 19), .ref (r 20), .ref (r 21), .ref (r 22), .ref (r 23), .ref (r 24), .ref (r 25), .ref (r 26), .ref (r 27), .ref (r 28), .ref (r 29), .int 0, .int 0, .int 0, .ref (r 30), .int 0, .int 0, .int 0, .int 0, .int 0, .int 0, .ref (r 31), .int 0, .int 0, .int 0, .ref (r 32), .ref (r 33)])), ((r 7), .inl ((j 5), 40, .inl (fun _ => 0))), ((r 6), .inl ((j 4), 5, .inl (fun _ => 0))), ((r 1), .inl ((j 0), 4, .inl (upd (upd (upd (upd (fun _ => 0) 0 (-1)) 1 (-1)) 2 (-1)) 3 (-1))))]) [78, 84, 83, 79] rfl
    have hKc := hK.sub (tys' := [((j 5), .int), ((j 4), .int), ((j 0), .int)]) [61, 60, 56] rfl
    have hDc := hD.sub (ws' := [((r 0), .inr (12, [.int 0, .ref (r 1), .ref (r 2), .ref (r 3), .ref (r 4), .ref (r 5), .int 0, .int 0, .int 0, .int 0, .int 0, .long 0, .int 0, .int 0, .int 0, .int (-1), .ref (r 6), .ref (r 7), .ref (r 8), .ref (r 9), .ref (r 10), .ref (r 11), .ref (r 12), .ref (r 13), .int 0, .int 0, .int 0, .ref (r 14), .ref (r 15), .ref (r 16), .ref (r 17), .ref (r 18), .ref (r 19), .ref (r 20), .ref (r 21), .ref (r 22), .ref (r 23), .ref (r 24), .ref (r 25), .ref (r 26), .ref (r 27), .ref (r 28), .ref (r 29), .int 0, .int 0, .int 0, .ref (r 30), .int 0, .int 0, .int 0, .int 0, .int 0, .int 0, .ref (r 31), .int 0, .int 0, .int 0, .ref (r 32), .ref (r 33)])), ((r 7), .inl ((j 5), 40, .inl (fun _ => 0))), ((r 6), .inl ((j 4), 5, .inl (fun _ => 0))), ((r 1), .inl ((j 0), 4, .inl (upd (upd (upd (upd (fun _ => 0) 0 (-1)) 1 (-1)) 2 (-1)) 3 (-1))))]) [78, 84, 83, 79] (by decide) rfl
    have hFc := va_free (wc := [((r 0), .inr (12, [.int 0, .ref (r 1), .ref (r 2), .ref (r 3), .ref (r 4), .ref (r 5), .int 0, .int 0, .int 0, .int 0, .int 0, .long 0, .int 0, .int 0, .int 0, .int (-1), .ref (r 6), .ref (r 7), .ref (r 8), .ref (r 9), .ref (r 10), .ref (r 11), .ref (r 12), .ref (r 13), .int 0, .int 0, .int 0, .ref (r 14), .ref (r 15), .ref (r 16), .ref (r 17), .ref (r 18), .ref (r 19), .ref (r 20), .ref (r 21), .ref (r 22), .ref (r 23), .ref (r 24), .ref (r 25), .ref (r 26), .ref (r 27), .ref (r 28), .ref (r 29), .int 0, .int 0, .int 0, .ref (r 30), .int 0, .int 0, .int 0, .int 0, .int 0, .int 0, .ref (r 31), .int 0, .int 0, .int 0, .ref (r 32), .ref (r 33)])), ((r 7), .inl ((j 5), 40, .inl (fun _ => 0))), ((r 6), .inl ((j 4), 5, .inl (fun _ => 0))), ((r 1), .inl ((j 0), 4, .inl (upd (upd (upd (upd (fun _ => 0) 0 (-1)) 1 (-1)) 2 (-1)) 3 (-1))))]) hD hS hA [78, 84, 83, 79] rfl
    refine va_calli (va_runV (As := [.int (xs 1)]) (rest := [.int 0]) ⟨hx, hb, hml, hown, hts⟩ (f_X12_count l dC dI H.size ((r 0)) ((r 1)) ((r 2)) ((r 3)) ((r 4)) ((r 5)) ((r 6)) ((r 7)) ((r 8)) ((r 9)) ((r 10)) ((r 11)) ((r 12)) ((r 13)) ((r 14)) ((r 15)) ((r 16)) ((r 17)) ((r 18)) ((r 19)) ((r 20)) ((r 21)) ((r 22)) ((r 23)) ((r 24)) ((r 25)) ((r 26)) ((r 27)) ((r 28)) ((r 29)) ((r 30)) ((r 31)) ((r 32)) ((r 33)) ((j 5)) ((j 4)) ((j 0)) ((xs 1))) (cwV 1 hts (gk_V tw_1097 tw_1098 tw_1099 tw_505 wki_f_X12_count wkg_f_X12_count) rfl rfl rfl (by decide +kernel) ⟨Nat.le_of_ble_eq_true rfl, Nat.le_of_ble_eq_true rfl⟩) ⟨fun a U g mk q => by obtain ⟨q0, q1, qP, qK, qD⟩ := q; exact ⟨q0, q1, qP, va_K.moved (u := U) (U := U.calling g mk a) (Vm.Alike.refl U.vm) qK, qD⟩, va_recv hKc hPc (ci := 12) (q0 := 0) rfl rfl, fun U hU hW => ⟨rfl, by rw [hU], by rw [hU]; exact hPc, va_K.moved hW.alike hKc, hDc.weaken (fun _ _ _ _ => trivial)⟩⟩ rfl rfl hl.1 rfl (lv_room (Nat.le_of_ble_eq_true rfl)) dL_law_2060 ⟨Nat.le_of_ble_eq_true rfl, Nat.le_of_ble_eq_true rfl⟩) hS (fun q _ h => hFc q h) hFc (fun oz272 u t H1 locs ht hvm gz271 hB hz1 hk1 hS => ?_)
    generalize H1 = H at hS ⊢
    refine W.widen (k := 305) (n := 4995) (Nat.le_of_ble_eq_true rfl) (Nat.le_of_ble_eq_true rfl) ?_
    rcases gz271 with ⟨rfl, cz273, cz274, cz275, cz276⟩ | ⟨rfl, cz277, cz278, cz279⟩ | ⟨rfl, cz280, cz281, cz282, cz283⟩ | ⟨rfl, cz284, cz285, cz286, cz287, cz288⟩ | ⟨rfl, cz289, cz290, cz291, cz292, cz293⟩ | ⟨rfl, cz294, cz295⟩
    · skip
      have z0 : ¬ (xs 1).toInt = (0 : Int) := fun h9 => cz32 (zi_eq.mpr h9)
      have z1 : ¬ (xs 1).toInt = (1 : Int) := fun h9 => cz33 (zi_eq.mpr h9)
      have z2 : ¬ (xs 1).toInt = (2 : Int) := fun h9 => cz34 (zi_eq.mpr h9)
      have z3 : ¬ (xs 1).toInt = (3 : Int) := fun h9 => cz35 (zi_eq.mpr h9)
      have z4 : ¬ (xs 1).toInt = (4 : Int) := fun h9 => cz36 (zi_eq.mpr h9)
      have z5 : ¬ (xs 1).toInt = (5 : Int) := fun h9 => cz37 (zi_eq.mpr h9)
      have z6 : ¬ (xs 1).toInt = (6 : Int) := fun h9 => cz38 (zi_eq.mpr h9)
      have z7 : (xs 1).toInt = (7 : Int) := zi_eq.mp cz39
      have z8 : (xs 1).toInt < (0 : Int) := by have h9 := zi_ltL.mp cz273; simp only [Int32.toInt_toInt64] at h9; exact h9
      omega
    · skip
      have z0 : ¬ (xs 1).toInt = (0 : Int) := fun h9 => cz32 (zi_eq.mpr h9)
      have z1 : ¬ (xs 1).toInt = (1 : Int) := fun h9 => cz33 (zi_eq.mpr h9)
      have z2 : ¬ (xs 1).toInt = (2 : Int) := fun h9 => cz34 (zi_eq.mpr h9)
      have z3 : ¬ (xs 1).toInt = (3 : Int) := fun h9 => cz35 (zi_eq.mpr h9)
      have z4 : ¬ (xs 1).toInt = (4 : Int) := fun h9 => cz36 (zi_eq.mpr h9)
      have z5 : ¬ (xs 1).toInt = (5 : Int) := fun h9 => cz37 (zi_eq.mpr h9)
      have z6 : ¬ (xs 1).toInt = (6 : Int) := fun h9 => cz38 (zi_eq.mpr h9)
      have z7 : (xs 1).toInt = (7 : Int) := zi_eq.mp cz39
      have z8 : ¬ (xs 1).toInt < (0 : Int) := by intro h9; apply cz277; rw [zi_ltL]; simp only [Int32.toInt_toInt64]; exact h9
      have z9 : (7 : Int) < (xs 1).toInt := by have h9 := zi_ltL.mp cz278; simp only [Int32.toInt_toInt64] at h9; exact h9
      omega
    · skip
      have z0 : ¬ (xs 1).toInt = (0 : Int) := fun h9 => cz32 (zi_eq.mpr h9)
      have z1 : ¬ (xs 1).toInt = (1 : Int) := fun h9 => cz33 (zi_eq.mpr h9)
      have z2 : ¬ (xs 1).toInt = (2 : Int) := fun h9 => cz34 (zi_eq.mpr h9)
      have z3 : ¬ (xs 1).toInt = (3 : Int) := fun h9 => cz35 (zi_eq.mpr h9)
      have z4 : ¬ (xs 1).toInt = (4 : Int) := fun h9 => cz36 (zi_eq.mpr h9)
      have z5 : ¬ (xs 1).toInt = (5 : Int) := fun h9 => cz37 (zi_eq.mpr h9)
      have z6 : ¬ (xs 1).toInt = (6 : Int) := fun h9 => cz38 (zi_eq.mpr h9)
      have z7 : (xs 1).toInt = (7 : Int) := zi_eq.mp cz39
      have z8 : ¬ (xs 1).toInt < (0 : Int) := by intro h9; apply cz280; rw [zi_ltL]; simp only [Int32.toInt_toInt64]; exact h9
      have z9 : (7 : Int) < (xs 1).toInt := by have h9 := zi_ltL.mp cz281; simp only [Int32.toInt_toInt64] at h9; exact h9
      omega
    · skip
      have z0 : ¬ (xs 1).toInt = (0 : Int) := fun h9 => cz32 (zi_eq.mpr h9)
      have z1 : ¬ (xs 1).toInt = (1 : Int) := fun h9 => cz33 (zi_eq.mpr h9)
      have z2 : ¬ (xs 1).toInt = (2 : Int) := fun h9 => cz34 (zi_eq.mpr h9)
      have z3 : ¬ (xs 1).toInt = (3 : Int) := fun h9 => cz35 (zi_eq.mpr h9)
      have z4 : ¬ (xs 1).toInt = (4 : Int) := fun h9 => cz36 (zi_eq.mpr h9)
      have z5 : ¬ (xs 1).toInt = (5 : Int) := fun h9 => cz37 (zi_eq.mpr h9)
      have z6 : ¬ (xs 1).toInt = (6 : Int) := fun h9 => cz38 (zi_eq.mpr h9)
      have z7 : (xs 1).toInt = (7 : Int) := zi_eq.mp cz39
      have z8 : ¬ (xs 1).toInt < (0 : Int) := by intro h9; apply cz284; rw [zi_ltL]; simp only [Int32.toInt_toInt64]; exact h9
      have z9 : (7 : Int) < (xs 1).toInt := by have h9 := zi_ltL.mp cz285; simp only [Int32.toInt_toInt64] at h9; exact h9
      omega
    · skip
      have z0 : ¬ (xs 1).toInt = (0 : Int) := fun h9 => cz32 (zi_eq.mpr h9)
      have z1 : ¬ (xs 1).toInt = (1 : Int) := fun h9 => cz33 (zi_eq.mpr h9)
      have z2 : ¬ (xs 1).toInt = (2 : Int) := fun h9 => cz34 (zi_eq.mpr h9)
      have z3 : ¬ (xs 1).toInt = (3 : Int) := fun h9 => cz35 (zi_eq.mpr h9)
      have z4 : ¬ (xs 1).toInt = (4 : Int) := fun h9 => cz36 (zi_eq.mpr h9)
      have z5 : ¬ (xs 1).toInt = (5 : Int) := fun h9 => cz37 (zi_eq.mpr h9)
      have z6 : ¬ (xs 1).toInt = (6 : Int) := fun h9 => cz38 (zi_eq.mpr h9)
      have z7 : (xs 1).toInt = (7 : Int) := zi_eq.mp cz39
      have z8 : ¬ (xs 1).toInt < (0 : Int) := by intro h9; apply cz289; rw [zi_ltL]; simp only [Int32.toInt_toInt64]; exact h9
      have z9 : (7 : Int) < (xs 1).toInt := by have h9 := zi_ltL.mp cz290; simp only [Int32.toInt_toInt64] at h9; exact h9
      omega
    · skip
      refine lv_icmp_eq (tgt := 2293) hx hb dL_law_2063 (by decide) (fun cz296 => ?_) (fun cz296 => ?_)
      · skip
        exact law_end (dC := dC) (dI := dI) (Nat.le_of_eq hL6) C0 A hAe (q 0) (r 0) H locs hS ls hl
      · skip
        exact absurd cz296 (by decide)
  · skip
    refine lv_aload_n hx hb dL_law_2054 rfl (lv_at hl 2 rfl) ?_
    refine lv_aload_n hx hb dL_law_2055 rfl (lv_at hl 0 rfl) ?_
    refine lv_iload_n hx hb dL_law_2056 rfl (lv_at hl 3 rfl) ?_
    refine lv_iconst (v := 1) hx hb dL_law_2057 (by decide) ?_
    refine lv_iadd hx hb dL_law_2058 ?_
    refine lv_topi (fun xz297 exz297 => ?_)
    obtain rfl : xz297 = 1 := exz297.trans (by decide)
    refine va_sld hx hb hX hbl hbA hS (by rw [hL6]; unfold vp_in; decide) dL_law_2059 ?_
    refine W.eq (g2 := F0 m 2060 ls [.int (xs 1), .ref (r 0), .int 0]) rfl ?_
    have hPc := hP.sub (ws' := [((r 0), .inr (12, [.int 0, .ref (r 1), .ref (r 2), .ref (r 3), .ref (r 4), .ref (r 5), .int 0, .int 0, .int 0, .int 0, .int 0, .long 0, .int 0, .int 0, .int 0, .int (-1), .ref (r 6), .ref (r 7), .ref (r 8), .ref (r 9), .ref (r 10), .ref (r 11), .ref (r 12), .ref (r 13), .int 0, .int 0, .int 0, .ref (r 14), .ref (r 15), .ref (r 16), .ref (r 17), .ref (r 18), .ref (r 19), .ref (r 20), .ref (r 21), .ref (r 22), .ref (r 23), .ref (r 24), .ref (r 25), .ref (r 26), .ref (r 27), .ref (r 28), .ref (r 29), .int 0, .int 0, .int 0, .ref (r 30), .int 0, .int 0, .int 0, .int 0, .int 0, .int 0, .ref (r 31), .int 0, .int 0, .int 0, .ref (r 32), .ref (r 33)])), ((r 7), .inl ((j 5), 40, .inl (fun _ => 0))), ((r 6), .inl ((j 4), 5, .inl (fun _ => 0))), ((r 1), .inl ((j 0), 4, .inl (upd (upd (upd (upd (fun _ => 0) 0 (-1)) 1 (-1)) 2 (-1)) 3 (-1))))]) [78, 84, 83, 79] rfl
    have hKc := hK.sub (tys' := [((j 5), .int), ((j 4), .int), ((j 0), .int)]) [61, 60, 56] rfl
    have hDc := hD.sub (ws' := [((r 0), .inr (12, [.int 0, .ref (r 1), .ref (r 2), .ref (r 3), .ref (r 4), .ref (r 5), .int 0, .int 0, .int 0, .int 0, .int 0, .long 0, .int 0, .int 0, .int 0, .int (-1), .ref (r 6), .ref (r 7), .ref (r 8), .ref (r 9), .ref (r 10), .ref (r 11), .ref (r 12), .ref (r 13), .int 0, .int 0, .int 0, .ref (r 14), .ref (r 15), .ref (r 16), .ref (r 17), .ref (r 18), .ref (r 19), .ref (r 20), .ref (r 21), .ref (r 22), .ref (r 23), .ref (r 24), .ref (r 25), .ref (r 26), .ref (r 27), .ref (r 28), .ref (r 29), .int 0, .int 0, .int 0, .ref (r 30), .int 0, .int 0, .int 0, .int 0, .int 0, .int 0, .ref (r 31), .int 0, .int 0, .int 0, .ref (r 32), .ref (r 33)])), ((r 7), .inl ((j 5), 40, .inl (fun _ => 0))), ((r 6), .inl ((j 4), 5, .inl (fun _ => 0))), ((r 1), .inl ((j 0), 4, .inl (upd (upd (upd (upd (fun _ => 0) 0 (-1)) 1 (-1)) 2 (-1)) 3 (-1))))]) [78, 84, 83, 79] (by decide) rfl
    have hFc := va_free (wc := [((r 0), .inr (12, [.int 0, .ref (r 1), .ref (r 2), .ref (r 3), .ref (r 4), .ref (r 5), .int 0, .int 0, .int 0, .int 0, .int 0, .long 0, .int 0, .int 0, .int 0, .int (-1), .ref (r 6), .ref (r 7), .ref (r 8), .ref (r 9), .ref (r 10), .ref (r 11), .ref (r 12), .ref (r 13), .int 0, .int 0, .int 0, .ref (r 14), .ref (r 15), .ref (r 16), .ref (r 17), .ref (r 18), .ref (r 19), .ref (r 20), .ref (r 21), .ref (r 22), .ref (r 23), .ref (r 24), .ref (r 25), .ref (r 26), .ref (r 27), .ref (r 28), .ref (r 29), .int 0, .int 0, .int 0, .ref (r 30), .int 0, .int 0, .int 0, .int 0, .int 0, .int 0, .ref (r 31), .int 0, .int 0, .int 0, .ref (r 32), .ref (r 33)])), ((r 7), .inl ((j 5), 40, .inl (fun _ => 0))), ((r 6), .inl ((j 4), 5, .inl (fun _ => 0))), ((r 1), .inl ((j 0), 4, .inl (upd (upd (upd (upd (fun _ => 0) 0 (-1)) 1 (-1)) 2 (-1)) 3 (-1))))]) hD hS hA [78, 84, 83, 79] rfl
    refine va_calli (va_runV (As := [.int (xs 1)]) (rest := [.int 0]) ⟨hx, hb, hml, hown, hts⟩ (f_X12_count l dC dI H.size ((r 0)) ((r 1)) ((r 2)) ((r 3)) ((r 4)) ((r 5)) ((r 6)) ((r 7)) ((r 8)) ((r 9)) ((r 10)) ((r 11)) ((r 12)) ((r 13)) ((r 14)) ((r 15)) ((r 16)) ((r 17)) ((r 18)) ((r 19)) ((r 20)) ((r 21)) ((r 22)) ((r 23)) ((r 24)) ((r 25)) ((r 26)) ((r 27)) ((r 28)) ((r 29)) ((r 30)) ((r 31)) ((r 32)) ((r 33)) ((j 5)) ((j 4)) ((j 0)) ((xs 1))) (cwV 1 hts (gk_V tw_1097 tw_1098 tw_1099 tw_505 wki_f_X12_count wkg_f_X12_count) rfl rfl rfl (by decide +kernel) ⟨Nat.le_of_ble_eq_true rfl, Nat.le_of_ble_eq_true rfl⟩) ⟨fun a U g mk q => by obtain ⟨q0, q1, qP, qK, qD⟩ := q; exact ⟨q0, q1, qP, va_K.moved (u := U) (U := U.calling g mk a) (Vm.Alike.refl U.vm) qK, qD⟩, va_recv hKc hPc (ci := 12) (q0 := 0) rfl rfl, fun U hU hW => ⟨rfl, by rw [hU], by rw [hU]; exact hPc, va_K.moved hW.alike hKc, hDc.weaken (fun _ _ _ _ => trivial)⟩⟩ rfl rfl hl.1 rfl (lv_room (Nat.le_of_ble_eq_true rfl)) dL_law_2060 ⟨Nat.le_of_ble_eq_true rfl, Nat.le_of_ble_eq_true rfl⟩) hS (fun q _ h => hFc q h) hFc (fun oz299 u t H1 locs ht hvm gz298 hB hz1 hk1 hS => ?_)
    generalize H1 = H at hS ⊢
    refine W.widen (k := 305) (n := 4995) (Nat.le_of_ble_eq_true rfl) (Nat.le_of_ble_eq_true rfl) ?_
    rcases gz298 with ⟨rfl, cz300, cz301, cz302, cz303⟩ | ⟨rfl, cz304, cz305, cz306⟩ | ⟨rfl, cz307, cz308, cz309, cz310⟩ | ⟨rfl, cz311, cz312, cz313, cz314, cz315⟩ | ⟨rfl, cz316, cz317, cz318, cz319, cz320⟩ | ⟨rfl, cz321, cz322⟩
    · skip
      have z0 : ¬ (xs 1).toInt = (0 : Int) := fun h9 => cz40 (zi_eq.mpr h9)
      have z1 : ¬ (xs 1).toInt = (1 : Int) := fun h9 => cz41 (zi_eq.mpr h9)
      have z2 : ¬ (xs 1).toInt = (2 : Int) := fun h9 => cz42 (zi_eq.mpr h9)
      have z3 : ¬ (xs 1).toInt = (3 : Int) := fun h9 => cz43 (zi_eq.mpr h9)
      have z4 : ¬ (xs 1).toInt = (4 : Int) := fun h9 => cz44 (zi_eq.mpr h9)
      have z5 : ¬ (xs 1).toInt = (5 : Int) := fun h9 => cz45 (zi_eq.mpr h9)
      have z6 : ¬ (xs 1).toInt = (6 : Int) := fun h9 => cz46 (zi_eq.mpr h9)
      have z7 : ¬ (xs 1).toInt = (7 : Int) := fun h9 => cz47 (zi_eq.mpr h9)
      have z8 : (xs 1).toInt = (8 : Int) := zi_eq.mp cz48
      have z9 : (xs 1).toInt < (0 : Int) := by have h9 := zi_ltL.mp cz300; simp only [Int32.toInt_toInt64] at h9; exact h9
      omega
    · skip
      refine lv_icmp_eq (tgt := 2293) hx hb dL_law_2063 (by decide) (fun cz323 => ?_) (fun cz323 => ?_)
      · skip
        exact law_end (dC := dC) (dI := dI) (Nat.le_of_eq hL6) C0 A hAe (q 0) (r 0) H locs hS ls hl
      · skip
        exact absurd cz323 (by decide)
    · skip
      have z0 : ¬ (xs 1).toInt = (0 : Int) := fun h9 => cz40 (zi_eq.mpr h9)
      have z1 : ¬ (xs 1).toInt = (1 : Int) := fun h9 => cz41 (zi_eq.mpr h9)
      have z2 : ¬ (xs 1).toInt = (2 : Int) := fun h9 => cz42 (zi_eq.mpr h9)
      have z3 : ¬ (xs 1).toInt = (3 : Int) := fun h9 => cz43 (zi_eq.mpr h9)
      have z4 : ¬ (xs 1).toInt = (4 : Int) := fun h9 => cz44 (zi_eq.mpr h9)
      have z5 : ¬ (xs 1).toInt = (5 : Int) := fun h9 => cz45 (zi_eq.mpr h9)
      have z6 : ¬ (xs 1).toInt = (6 : Int) := fun h9 => cz46 (zi_eq.mpr h9)
      have z7 : ¬ (xs 1).toInt = (7 : Int) := fun h9 => cz47 (zi_eq.mpr h9)
      have z8 : (xs 1).toInt = (8 : Int) := zi_eq.mp cz48
      have z9 : ¬ (xs 1).toInt < (0 : Int) := by intro h9; apply cz307; rw [zi_ltL]; simp only [Int32.toInt_toInt64]; exact h9
      have z10 : (7 : Int) < (xs 1).toInt := by have h9 := zi_ltL.mp cz308; simp only [Int32.toInt_toInt64] at h9; exact h9
      have z11 : ¬ (xs 1).toInt = (8 : Int) := fun h9 => cz309 (zi_eq.mpr h9)
      omega
    · skip
      have z0 : ¬ (xs 1).toInt = (0 : Int) := fun h9 => cz40 (zi_eq.mpr h9)
      have z1 : ¬ (xs 1).toInt = (1 : Int) := fun h9 => cz41 (zi_eq.mpr h9)
      have z2 : ¬ (xs 1).toInt = (2 : Int) := fun h9 => cz42 (zi_eq.mpr h9)
      have z3 : ¬ (xs 1).toInt = (3 : Int) := fun h9 => cz43 (zi_eq.mpr h9)
      have z4 : ¬ (xs 1).toInt = (4 : Int) := fun h9 => cz44 (zi_eq.mpr h9)
      have z5 : ¬ (xs 1).toInt = (5 : Int) := fun h9 => cz45 (zi_eq.mpr h9)
      have z6 : ¬ (xs 1).toInt = (6 : Int) := fun h9 => cz46 (zi_eq.mpr h9)
      have z7 : ¬ (xs 1).toInt = (7 : Int) := fun h9 => cz47 (zi_eq.mpr h9)
      have z8 : (xs 1).toInt = (8 : Int) := zi_eq.mp cz48
      have z9 : ¬ (xs 1).toInt < (0 : Int) := by intro h9; apply cz311; rw [zi_ltL]; simp only [Int32.toInt_toInt64]; exact h9
      have z10 : (7 : Int) < (xs 1).toInt := by have h9 := zi_ltL.mp cz312; simp only [Int32.toInt_toInt64] at h9; exact h9
      have z11 : ¬ (xs 1).toInt = (8 : Int) := fun h9 => cz313 (zi_eq.mpr h9)
      omega
    · skip
      have z0 : ¬ (xs 1).toInt = (0 : Int) := fun h9 => cz40 (zi_eq.mpr h9)
      have z1 : ¬ (xs 1).toInt = (1 : Int) := fun h9 => cz41 (zi_eq.mpr h9)
      have z2 : ¬ (xs 1).toInt = (2 : Int) := fun h9 => cz42 (zi_eq.mpr h9)
      have z3 : ¬ (xs 1).toInt = (3 : Int) := fun h9 => cz43 (zi_eq.mpr h9)
      have z4 : ¬ (xs 1).toInt = (4 : Int) := fun h9 => cz44 (zi_eq.mpr h9)
      have z5 : ¬ (xs 1).toInt = (5 : Int) := fun h9 => cz45 (zi_eq.mpr h9)
      have z6 : ¬ (xs 1).toInt = (6 : Int) := fun h9 => cz46 (zi_eq.mpr h9)
      have z7 : ¬ (xs 1).toInt = (7 : Int) := fun h9 => cz47 (zi_eq.mpr h9)
      have z8 : (xs 1).toInt = (8 : Int) := zi_eq.mp cz48
      have z9 : ¬ (xs 1).toInt < (0 : Int) := by intro h9; apply cz316; rw [zi_ltL]; simp only [Int32.toInt_toInt64]; exact h9
      have z10 : (7 : Int) < (xs 1).toInt := by have h9 := zi_ltL.mp cz317; simp only [Int32.toInt_toInt64] at h9; exact h9
      have z11 : ¬ (xs 1).toInt = (8 : Int) := fun h9 => cz318 (zi_eq.mpr h9)
      omega
    · skip
      have z0 : ¬ (xs 1).toInt = (0 : Int) := fun h9 => cz40 (zi_eq.mpr h9)
      have z1 : ¬ (xs 1).toInt = (1 : Int) := fun h9 => cz41 (zi_eq.mpr h9)
      have z2 : ¬ (xs 1).toInt = (2 : Int) := fun h9 => cz42 (zi_eq.mpr h9)
      have z3 : ¬ (xs 1).toInt = (3 : Int) := fun h9 => cz43 (zi_eq.mpr h9)
      have z4 : ¬ (xs 1).toInt = (4 : Int) := fun h9 => cz44 (zi_eq.mpr h9)
      have z5 : ¬ (xs 1).toInt = (5 : Int) := fun h9 => cz45 (zi_eq.mpr h9)
      have z6 : ¬ (xs 1).toInt = (6 : Int) := fun h9 => cz46 (zi_eq.mpr h9)
      have z7 : ¬ (xs 1).toInt = (7 : Int) := fun h9 => cz47 (zi_eq.mpr h9)
      have z8 : (xs 1).toInt = (8 : Int) := zi_eq.mp cz48
      have z9 : ¬ (xs 1).toInt < (0 : Int) := by intro h9; apply cz321; rw [zi_ltL]; simp only [Int32.toInt_toInt64]; exact h9
      have z10 : ¬ (7 : Int) < (xs 1).toInt := by intro h9; apply cz322; rw [zi_ltL]; simp only [Int32.toInt_toInt64]; exact h9
      omega
  · skip
    refine lv_aload_n hx hb dL_law_2054 rfl (lv_at hl 2 rfl) ?_
    refine lv_aload_n hx hb dL_law_2055 rfl (lv_at hl 0 rfl) ?_
    refine lv_iload_n hx hb dL_law_2056 rfl (lv_at hl 3 rfl) ?_
    refine lv_iconst (v := 1) hx hb dL_law_2057 (by decide) ?_
    refine lv_iadd hx hb dL_law_2058 ?_
    refine lv_topi (fun xz324 exz324 => ?_)
    obtain rfl : xz324 = 1 := exz324.trans (by decide)
    refine va_sld hx hb hX hbl hbA hS (by rw [hL6]; unfold vp_in; decide) dL_law_2059 ?_
    refine W.eq (g2 := F0 m 2060 ls [.int (xs 1), .ref (r 0), .int 0]) rfl ?_
    have hPc := hP.sub (ws' := [((r 0), .inr (12, [.int 0, .ref (r 1), .ref (r 2), .ref (r 3), .ref (r 4), .ref (r 5), .int 0, .int 0, .int 0, .int 0, .int 0, .long 0, .int 0, .int 0, .int 0, .int (-1), .ref (r 6), .ref (r 7), .ref (r 8), .ref (r 9), .ref (r 10), .ref (r 11), .ref (r 12), .ref (r 13), .int 0, .int 0, .int 0, .ref (r 14), .ref (r 15), .ref (r 16), .ref (r 17), .ref (r 18), .ref (r 19), .ref (r 20), .ref (r 21), .ref (r 22), .ref (r 23), .ref (r 24), .ref (r 25), .ref (r 26), .ref (r 27), .ref (r 28), .ref (r 29), .int 0, .int 0, .int 0, .ref (r 30), .int 0, .int 0, .int 0, .int 0, .int 0, .int 0, .ref (r 31), .int 0, .int 0, .int 0, .ref (r 32), .ref (r 33)])), ((r 7), .inl ((j 5), 40, .inl (fun _ => 0))), ((r 6), .inl ((j 4), 5, .inl (fun _ => 0))), ((r 1), .inl ((j 0), 4, .inl (upd (upd (upd (upd (fun _ => 0) 0 (-1)) 1 (-1)) 2 (-1)) 3 (-1))))]) [78, 84, 83, 79] rfl
    have hKc := hK.sub (tys' := [((j 5), .int), ((j 4), .int), ((j 0), .int)]) [61, 60, 56] rfl
    have hDc := hD.sub (ws' := [((r 0), .inr (12, [.int 0, .ref (r 1), .ref (r 2), .ref (r 3), .ref (r 4), .ref (r 5), .int 0, .int 0, .int 0, .int 0, .int 0, .long 0, .int 0, .int 0, .int 0, .int (-1), .ref (r 6), .ref (r 7), .ref (r 8), .ref (r 9), .ref (r 10), .ref (r 11), .ref (r 12), .ref (r 13), .int 0, .int 0, .int 0, .ref (r 14), .ref (r 15), .ref (r 16), .ref (r 17), .ref (r 18), .ref (r 19), .ref (r 20), .ref (r 21), .ref (r 22), .ref (r 23), .ref (r 24), .ref (r 25), .ref (r 26), .ref (r 27), .ref (r 28), .ref (r 29), .int 0, .int 0, .int 0, .ref (r 30), .int 0, .int 0, .int 0, .int 0, .int 0, .int 0, .ref (r 31), .int 0, .int 0, .int 0, .ref (r 32), .ref (r 33)])), ((r 7), .inl ((j 5), 40, .inl (fun _ => 0))), ((r 6), .inl ((j 4), 5, .inl (fun _ => 0))), ((r 1), .inl ((j 0), 4, .inl (upd (upd (upd (upd (fun _ => 0) 0 (-1)) 1 (-1)) 2 (-1)) 3 (-1))))]) [78, 84, 83, 79] (by decide) rfl
    have hFc := va_free (wc := [((r 0), .inr (12, [.int 0, .ref (r 1), .ref (r 2), .ref (r 3), .ref (r 4), .ref (r 5), .int 0, .int 0, .int 0, .int 0, .int 0, .long 0, .int 0, .int 0, .int 0, .int (-1), .ref (r 6), .ref (r 7), .ref (r 8), .ref (r 9), .ref (r 10), .ref (r 11), .ref (r 12), .ref (r 13), .int 0, .int 0, .int 0, .ref (r 14), .ref (r 15), .ref (r 16), .ref (r 17), .ref (r 18), .ref (r 19), .ref (r 20), .ref (r 21), .ref (r 22), .ref (r 23), .ref (r 24), .ref (r 25), .ref (r 26), .ref (r 27), .ref (r 28), .ref (r 29), .int 0, .int 0, .int 0, .ref (r 30), .int 0, .int 0, .int 0, .int 0, .int 0, .int 0, .ref (r 31), .int 0, .int 0, .int 0, .ref (r 32), .ref (r 33)])), ((r 7), .inl ((j 5), 40, .inl (fun _ => 0))), ((r 6), .inl ((j 4), 5, .inl (fun _ => 0))), ((r 1), .inl ((j 0), 4, .inl (upd (upd (upd (upd (fun _ => 0) 0 (-1)) 1 (-1)) 2 (-1)) 3 (-1))))]) hD hS hA [78, 84, 83, 79] rfl
    refine va_calli (va_runV (As := [.int (xs 1)]) (rest := [.int 0]) ⟨hx, hb, hml, hown, hts⟩ (f_X12_count l dC dI H.size ((r 0)) ((r 1)) ((r 2)) ((r 3)) ((r 4)) ((r 5)) ((r 6)) ((r 7)) ((r 8)) ((r 9)) ((r 10)) ((r 11)) ((r 12)) ((r 13)) ((r 14)) ((r 15)) ((r 16)) ((r 17)) ((r 18)) ((r 19)) ((r 20)) ((r 21)) ((r 22)) ((r 23)) ((r 24)) ((r 25)) ((r 26)) ((r 27)) ((r 28)) ((r 29)) ((r 30)) ((r 31)) ((r 32)) ((r 33)) ((j 5)) ((j 4)) ((j 0)) ((xs 1))) (cwV 1 hts (gk_V tw_1097 tw_1098 tw_1099 tw_505 wki_f_X12_count wkg_f_X12_count) rfl rfl rfl (by decide +kernel) ⟨Nat.le_of_ble_eq_true rfl, Nat.le_of_ble_eq_true rfl⟩) ⟨fun a U g mk q => by obtain ⟨q0, q1, qP, qK, qD⟩ := q; exact ⟨q0, q1, qP, va_K.moved (u := U) (U := U.calling g mk a) (Vm.Alike.refl U.vm) qK, qD⟩, va_recv hKc hPc (ci := 12) (q0 := 0) rfl rfl, fun U hU hW => ⟨rfl, by rw [hU], by rw [hU]; exact hPc, va_K.moved hW.alike hKc, hDc.weaken (fun _ _ _ _ => trivial)⟩⟩ rfl rfl hl.1 rfl (lv_room (Nat.le_of_ble_eq_true rfl)) dL_law_2060 ⟨Nat.le_of_ble_eq_true rfl, Nat.le_of_ble_eq_true rfl⟩) hS (fun q _ h => hFc q h) hFc (fun oz326 u t H1 locs ht hvm gz325 hB hz1 hk1 hS => ?_)
    generalize H1 = H at hS ⊢
    refine W.widen (k := 305) (n := 4995) (Nat.le_of_ble_eq_true rfl) (Nat.le_of_ble_eq_true rfl) ?_
    rcases gz325 with ⟨rfl, cz327, cz328, cz329, cz330⟩ | ⟨rfl, cz331, cz332, cz333⟩ | ⟨rfl, cz334, cz335, cz336, cz337⟩ | ⟨rfl, cz338, cz339, cz340, cz341, cz342⟩ | ⟨rfl, cz343, cz344, cz345, cz346, cz347⟩ | ⟨rfl, cz348, cz349⟩
    · skip
      have z0 : ¬ (xs 1).toInt = (0 : Int) := fun h9 => cz49 (zi_eq.mpr h9)
      have z1 : ¬ (xs 1).toInt = (1 : Int) := fun h9 => cz50 (zi_eq.mpr h9)
      have z2 : ¬ (xs 1).toInt = (2 : Int) := fun h9 => cz51 (zi_eq.mpr h9)
      have z3 : ¬ (xs 1).toInt = (3 : Int) := fun h9 => cz52 (zi_eq.mpr h9)
      have z4 : ¬ (xs 1).toInt = (4 : Int) := fun h9 => cz53 (zi_eq.mpr h9)
      have z5 : ¬ (xs 1).toInt = (5 : Int) := fun h9 => cz54 (zi_eq.mpr h9)
      have z6 : ¬ (xs 1).toInt = (6 : Int) := fun h9 => cz55 (zi_eq.mpr h9)
      have z7 : ¬ (xs 1).toInt = (7 : Int) := fun h9 => cz56 (zi_eq.mpr h9)
      have z8 : ¬ (xs 1).toInt = (8 : Int) := fun h9 => cz57 (zi_eq.mpr h9)
      have z9 : (xs 1).toInt = (9 : Int) := zi_eq.mp cz58
      have z10 : (xs 1).toInt < (0 : Int) := by have h9 := zi_ltL.mp cz327; simp only [Int32.toInt_toInt64] at h9; exact h9
      omega
    · skip
      have z0 : ¬ (xs 1).toInt = (0 : Int) := fun h9 => cz49 (zi_eq.mpr h9)
      have z1 : ¬ (xs 1).toInt = (1 : Int) := fun h9 => cz50 (zi_eq.mpr h9)
      have z2 : ¬ (xs 1).toInt = (2 : Int) := fun h9 => cz51 (zi_eq.mpr h9)
      have z3 : ¬ (xs 1).toInt = (3 : Int) := fun h9 => cz52 (zi_eq.mpr h9)
      have z4 : ¬ (xs 1).toInt = (4 : Int) := fun h9 => cz53 (zi_eq.mpr h9)
      have z5 : ¬ (xs 1).toInt = (5 : Int) := fun h9 => cz54 (zi_eq.mpr h9)
      have z6 : ¬ (xs 1).toInt = (6 : Int) := fun h9 => cz55 (zi_eq.mpr h9)
      have z7 : ¬ (xs 1).toInt = (7 : Int) := fun h9 => cz56 (zi_eq.mpr h9)
      have z8 : ¬ (xs 1).toInt = (8 : Int) := fun h9 => cz57 (zi_eq.mpr h9)
      have z9 : (xs 1).toInt = (9 : Int) := zi_eq.mp cz58
      have z10 : ¬ (xs 1).toInt < (0 : Int) := by intro h9; apply cz331; rw [zi_ltL]; simp only [Int32.toInt_toInt64]; exact h9
      have z11 : (7 : Int) < (xs 1).toInt := by have h9 := zi_ltL.mp cz332; simp only [Int32.toInt_toInt64] at h9; exact h9
      have z12 : (xs 1).toInt = (8 : Int) := zi_eq.mp cz333
      omega
    · skip
      refine lv_icmp_eq (tgt := 2293) hx hb dL_law_2063 (by decide) (fun cz350 => ?_) (fun cz350 => ?_)
      · skip
        exact law_end (dC := dC) (dI := dI) (Nat.le_of_eq hL6) C0 A hAe (q 0) (r 0) H locs hS ls hl
      · skip
        exact absurd cz350 (by decide)
    · skip
      have z0 : ¬ (xs 1).toInt = (0 : Int) := fun h9 => cz49 (zi_eq.mpr h9)
      have z1 : ¬ (xs 1).toInt = (1 : Int) := fun h9 => cz50 (zi_eq.mpr h9)
      have z2 : ¬ (xs 1).toInt = (2 : Int) := fun h9 => cz51 (zi_eq.mpr h9)
      have z3 : ¬ (xs 1).toInt = (3 : Int) := fun h9 => cz52 (zi_eq.mpr h9)
      have z4 : ¬ (xs 1).toInt = (4 : Int) := fun h9 => cz53 (zi_eq.mpr h9)
      have z5 : ¬ (xs 1).toInt = (5 : Int) := fun h9 => cz54 (zi_eq.mpr h9)
      have z6 : ¬ (xs 1).toInt = (6 : Int) := fun h9 => cz55 (zi_eq.mpr h9)
      have z7 : ¬ (xs 1).toInt = (7 : Int) := fun h9 => cz56 (zi_eq.mpr h9)
      have z8 : ¬ (xs 1).toInt = (8 : Int) := fun h9 => cz57 (zi_eq.mpr h9)
      have z9 : (xs 1).toInt = (9 : Int) := zi_eq.mp cz58
      have z10 : ¬ (xs 1).toInt < (0 : Int) := by intro h9; apply cz338; rw [zi_ltL]; simp only [Int32.toInt_toInt64]; exact h9
      have z11 : (7 : Int) < (xs 1).toInt := by have h9 := zi_ltL.mp cz339; simp only [Int32.toInt_toInt64] at h9; exact h9
      have z12 : ¬ (xs 1).toInt = (8 : Int) := fun h9 => cz340 (zi_eq.mpr h9)
      have z13 : ¬ (xs 1).toInt = (9 : Int) := fun h9 => cz341 (zi_eq.mpr h9)
      omega
    · skip
      have z0 : ¬ (xs 1).toInt = (0 : Int) := fun h9 => cz49 (zi_eq.mpr h9)
      have z1 : ¬ (xs 1).toInt = (1 : Int) := fun h9 => cz50 (zi_eq.mpr h9)
      have z2 : ¬ (xs 1).toInt = (2 : Int) := fun h9 => cz51 (zi_eq.mpr h9)
      have z3 : ¬ (xs 1).toInt = (3 : Int) := fun h9 => cz52 (zi_eq.mpr h9)
      have z4 : ¬ (xs 1).toInt = (4 : Int) := fun h9 => cz53 (zi_eq.mpr h9)
      have z5 : ¬ (xs 1).toInt = (5 : Int) := fun h9 => cz54 (zi_eq.mpr h9)
      have z6 : ¬ (xs 1).toInt = (6 : Int) := fun h9 => cz55 (zi_eq.mpr h9)
      have z7 : ¬ (xs 1).toInt = (7 : Int) := fun h9 => cz56 (zi_eq.mpr h9)
      have z8 : ¬ (xs 1).toInt = (8 : Int) := fun h9 => cz57 (zi_eq.mpr h9)
      have z9 : (xs 1).toInt = (9 : Int) := zi_eq.mp cz58
      have z10 : ¬ (xs 1).toInt < (0 : Int) := by intro h9; apply cz343; rw [zi_ltL]; simp only [Int32.toInt_toInt64]; exact h9
      have z11 : (7 : Int) < (xs 1).toInt := by have h9 := zi_ltL.mp cz344; simp only [Int32.toInt_toInt64] at h9; exact h9
      have z12 : ¬ (xs 1).toInt = (8 : Int) := fun h9 => cz345 (zi_eq.mpr h9)
      have z13 : ¬ (xs 1).toInt = (9 : Int) := fun h9 => cz346 (zi_eq.mpr h9)
      omega
    · skip
      have z0 : ¬ (xs 1).toInt = (0 : Int) := fun h9 => cz49 (zi_eq.mpr h9)
      have z1 : ¬ (xs 1).toInt = (1 : Int) := fun h9 => cz50 (zi_eq.mpr h9)
      have z2 : ¬ (xs 1).toInt = (2 : Int) := fun h9 => cz51 (zi_eq.mpr h9)
      have z3 : ¬ (xs 1).toInt = (3 : Int) := fun h9 => cz52 (zi_eq.mpr h9)
      have z4 : ¬ (xs 1).toInt = (4 : Int) := fun h9 => cz53 (zi_eq.mpr h9)
      have z5 : ¬ (xs 1).toInt = (5 : Int) := fun h9 => cz54 (zi_eq.mpr h9)
      have z6 : ¬ (xs 1).toInt = (6 : Int) := fun h9 => cz55 (zi_eq.mpr h9)
      have z7 : ¬ (xs 1).toInt = (7 : Int) := fun h9 => cz56 (zi_eq.mpr h9)
      have z8 : ¬ (xs 1).toInt = (8 : Int) := fun h9 => cz57 (zi_eq.mpr h9)
      have z9 : (xs 1).toInt = (9 : Int) := zi_eq.mp cz58
      have z10 : ¬ (xs 1).toInt < (0 : Int) := by intro h9; apply cz348; rw [zi_ltL]; simp only [Int32.toInt_toInt64]; exact h9
      have z11 : ¬ (7 : Int) < (xs 1).toInt := by intro h9; apply cz349; rw [zi_ltL]; simp only [Int32.toInt_toInt64]; exact h9
      omega
  · skip
    refine lv_aload_n hx hb dL_law_2054 rfl (lv_at hl 2 rfl) ?_
    refine lv_aload_n hx hb dL_law_2055 rfl (lv_at hl 0 rfl) ?_
    refine lv_iload_n hx hb dL_law_2056 rfl (lv_at hl 3 rfl) ?_
    refine lv_iconst (v := 1) hx hb dL_law_2057 (by decide) ?_
    refine lv_iadd hx hb dL_law_2058 ?_
    refine lv_topi (fun xz351 exz351 => ?_)
    obtain rfl : xz351 = 1 := exz351.trans (by decide)
    refine va_sld hx hb hX hbl hbA hS (by rw [hL6]; unfold vp_in; decide) dL_law_2059 ?_
    refine W.eq (g2 := F0 m 2060 ls [.int (xs 1), .ref (r 0), .int 0]) rfl ?_
    have hPc := hP.sub (ws' := [((r 0), .inr (12, [.int 0, .ref (r 1), .ref (r 2), .ref (r 3), .ref (r 4), .ref (r 5), .int 0, .int 0, .int 0, .int 0, .int 0, .long 0, .int 0, .int 0, .int 0, .int (-1), .ref (r 6), .ref (r 7), .ref (r 8), .ref (r 9), .ref (r 10), .ref (r 11), .ref (r 12), .ref (r 13), .int 0, .int 0, .int 0, .ref (r 14), .ref (r 15), .ref (r 16), .ref (r 17), .ref (r 18), .ref (r 19), .ref (r 20), .ref (r 21), .ref (r 22), .ref (r 23), .ref (r 24), .ref (r 25), .ref (r 26), .ref (r 27), .ref (r 28), .ref (r 29), .int 0, .int 0, .int 0, .ref (r 30), .int 0, .int 0, .int 0, .int 0, .int 0, .int 0, .ref (r 31), .int 0, .int 0, .int 0, .ref (r 32), .ref (r 33)])), ((r 7), .inl ((j 5), 40, .inl (fun _ => 0))), ((r 6), .inl ((j 4), 5, .inl (fun _ => 0))), ((r 1), .inl ((j 0), 4, .inl (upd (upd (upd (upd (fun _ => 0) 0 (-1)) 1 (-1)) 2 (-1)) 3 (-1))))]) [78, 84, 83, 79] rfl
    have hKc := hK.sub (tys' := [((j 5), .int), ((j 4), .int), ((j 0), .int)]) [61, 60, 56] rfl
    have hDc := hD.sub (ws' := [((r 0), .inr (12, [.int 0, .ref (r 1), .ref (r 2), .ref (r 3), .ref (r 4), .ref (r 5), .int 0, .int 0, .int 0, .int 0, .int 0, .long 0, .int 0, .int 0, .int 0, .int (-1), .ref (r 6), .ref (r 7), .ref (r 8), .ref (r 9), .ref (r 10), .ref (r 11), .ref (r 12), .ref (r 13), .int 0, .int 0, .int 0, .ref (r 14), .ref (r 15), .ref (r 16), .ref (r 17), .ref (r 18), .ref (r 19), .ref (r 20), .ref (r 21), .ref (r 22), .ref (r 23), .ref (r 24), .ref (r 25), .ref (r 26), .ref (r 27), .ref (r 28), .ref (r 29), .int 0, .int 0, .int 0, .ref (r 30), .int 0, .int 0, .int 0, .int 0, .int 0, .int 0, .ref (r 31), .int 0, .int 0, .int 0, .ref (r 32), .ref (r 33)])), ((r 7), .inl ((j 5), 40, .inl (fun _ => 0))), ((r 6), .inl ((j 4), 5, .inl (fun _ => 0))), ((r 1), .inl ((j 0), 4, .inl (upd (upd (upd (upd (fun _ => 0) 0 (-1)) 1 (-1)) 2 (-1)) 3 (-1))))]) [78, 84, 83, 79] (by decide) rfl
    have hFc := va_free (wc := [((r 0), .inr (12, [.int 0, .ref (r 1), .ref (r 2), .ref (r 3), .ref (r 4), .ref (r 5), .int 0, .int 0, .int 0, .int 0, .int 0, .long 0, .int 0, .int 0, .int 0, .int (-1), .ref (r 6), .ref (r 7), .ref (r 8), .ref (r 9), .ref (r 10), .ref (r 11), .ref (r 12), .ref (r 13), .int 0, .int 0, .int 0, .ref (r 14), .ref (r 15), .ref (r 16), .ref (r 17), .ref (r 18), .ref (r 19), .ref (r 20), .ref (r 21), .ref (r 22), .ref (r 23), .ref (r 24), .ref (r 25), .ref (r 26), .ref (r 27), .ref (r 28), .ref (r 29), .int 0, .int 0, .int 0, .ref (r 30), .int 0, .int 0, .int 0, .int 0, .int 0, .int 0, .ref (r 31), .int 0, .int 0, .int 0, .ref (r 32), .ref (r 33)])), ((r 7), .inl ((j 5), 40, .inl (fun _ => 0))), ((r 6), .inl ((j 4), 5, .inl (fun _ => 0))), ((r 1), .inl ((j 0), 4, .inl (upd (upd (upd (upd (fun _ => 0) 0 (-1)) 1 (-1)) 2 (-1)) 3 (-1))))]) hD hS hA [78, 84, 83, 79] rfl
    refine va_calli (va_runV (As := [.int (xs 1)]) (rest := [.int 0]) ⟨hx, hb, hml, hown, hts⟩ (f_X12_count l dC dI H.size ((r 0)) ((r 1)) ((r 2)) ((r 3)) ((r 4)) ((r 5)) ((r 6)) ((r 7)) ((r 8)) ((r 9)) ((r 10)) ((r 11)) ((r 12)) ((r 13)) ((r 14)) ((r 15)) ((r 16)) ((r 17)) ((r 18)) ((r 19)) ((r 20)) ((r 21)) ((r 22)) ((r 23)) ((r 24)) ((r 25)) ((r 26)) ((r 27)) ((r 28)) ((r 29)) ((r 30)) ((r 31)) ((r 32)) ((r 33)) ((j 5)) ((j 4)) ((j 0)) ((xs 1))) (cwV 1 hts (gk_V tw_1097 tw_1098 tw_1099 tw_505 wki_f_X12_count wkg_f_X12_count) rfl rfl rfl (by decide +kernel) ⟨Nat.le_of_ble_eq_true rfl, Nat.le_of_ble_eq_true rfl⟩) ⟨fun a U g mk q => by obtain ⟨q0, q1, qP, qK, qD⟩ := q; exact ⟨q0, q1, qP, va_K.moved (u := U) (U := U.calling g mk a) (Vm.Alike.refl U.vm) qK, qD⟩, va_recv hKc hPc (ci := 12) (q0 := 0) rfl rfl, fun U hU hW => ⟨rfl, by rw [hU], by rw [hU]; exact hPc, va_K.moved hW.alike hKc, hDc.weaken (fun _ _ _ _ => trivial)⟩⟩ rfl rfl hl.1 rfl (lv_room (Nat.le_of_ble_eq_true rfl)) dL_law_2060 ⟨Nat.le_of_ble_eq_true rfl, Nat.le_of_ble_eq_true rfl⟩) hS (fun q _ h => hFc q h) hFc (fun oz353 u t H1 locs ht hvm gz352 hB hz1 hk1 hS => ?_)
    generalize H1 = H at hS ⊢
    refine W.widen (k := 305) (n := 4995) (Nat.le_of_ble_eq_true rfl) (Nat.le_of_ble_eq_true rfl) ?_
    rcases gz352 with ⟨rfl, cz354, cz355, cz356, cz357⟩ | ⟨rfl, cz358, cz359, cz360⟩ | ⟨rfl, cz361, cz362, cz363, cz364⟩ | ⟨rfl, cz365, cz366, cz367, cz368, cz369⟩ | ⟨rfl, cz370, cz371, cz372, cz373, cz374⟩ | ⟨rfl, cz375, cz376⟩
    · skip
      have z0 : ¬ (xs 1).toInt = (0 : Int) := fun h9 => cz59 (zi_eq.mpr h9)
      have z1 : ¬ (xs 1).toInt = (1 : Int) := fun h9 => cz60 (zi_eq.mpr h9)
      have z2 : ¬ (xs 1).toInt = (2 : Int) := fun h9 => cz61 (zi_eq.mpr h9)
      have z3 : ¬ (xs 1).toInt = (3 : Int) := fun h9 => cz62 (zi_eq.mpr h9)
      have z4 : ¬ (xs 1).toInt = (4 : Int) := fun h9 => cz63 (zi_eq.mpr h9)
      have z5 : ¬ (xs 1).toInt = (5 : Int) := fun h9 => cz64 (zi_eq.mpr h9)
      have z6 : ¬ (xs 1).toInt = (6 : Int) := fun h9 => cz65 (zi_eq.mpr h9)
      have z7 : ¬ (xs 1).toInt = (7 : Int) := fun h9 => cz66 (zi_eq.mpr h9)
      have z8 : ¬ (xs 1).toInt = (8 : Int) := fun h9 => cz67 (zi_eq.mpr h9)
      have z9 : ¬ (xs 1).toInt = (9 : Int) := fun h9 => cz68 (zi_eq.mpr h9)
      have z10 : (xs 1).toInt = (10 : Int) := zi_eq.mp cz69
      have z11 : (xs 1).toInt < (0 : Int) := by have h9 := zi_ltL.mp cz354; simp only [Int32.toInt_toInt64] at h9; exact h9
      omega
    · skip
      have z0 : ¬ (xs 1).toInt = (0 : Int) := fun h9 => cz59 (zi_eq.mpr h9)
      have z1 : ¬ (xs 1).toInt = (1 : Int) := fun h9 => cz60 (zi_eq.mpr h9)
      have z2 : ¬ (xs 1).toInt = (2 : Int) := fun h9 => cz61 (zi_eq.mpr h9)
      have z3 : ¬ (xs 1).toInt = (3 : Int) := fun h9 => cz62 (zi_eq.mpr h9)
      have z4 : ¬ (xs 1).toInt = (4 : Int) := fun h9 => cz63 (zi_eq.mpr h9)
      have z5 : ¬ (xs 1).toInt = (5 : Int) := fun h9 => cz64 (zi_eq.mpr h9)
      have z6 : ¬ (xs 1).toInt = (6 : Int) := fun h9 => cz65 (zi_eq.mpr h9)
      have z7 : ¬ (xs 1).toInt = (7 : Int) := fun h9 => cz66 (zi_eq.mpr h9)
      have z8 : ¬ (xs 1).toInt = (8 : Int) := fun h9 => cz67 (zi_eq.mpr h9)
      have z9 : ¬ (xs 1).toInt = (9 : Int) := fun h9 => cz68 (zi_eq.mpr h9)
      have z10 : (xs 1).toInt = (10 : Int) := zi_eq.mp cz69
      have z11 : ¬ (xs 1).toInt < (0 : Int) := by intro h9; apply cz358; rw [zi_ltL]; simp only [Int32.toInt_toInt64]; exact h9
      have z12 : (7 : Int) < (xs 1).toInt := by have h9 := zi_ltL.mp cz359; simp only [Int32.toInt_toInt64] at h9; exact h9
      have z13 : (xs 1).toInt = (8 : Int) := zi_eq.mp cz360
      omega
    · skip
      have z0 : ¬ (xs 1).toInt = (0 : Int) := fun h9 => cz59 (zi_eq.mpr h9)
      have z1 : ¬ (xs 1).toInt = (1 : Int) := fun h9 => cz60 (zi_eq.mpr h9)
      have z2 : ¬ (xs 1).toInt = (2 : Int) := fun h9 => cz61 (zi_eq.mpr h9)
      have z3 : ¬ (xs 1).toInt = (3 : Int) := fun h9 => cz62 (zi_eq.mpr h9)
      have z4 : ¬ (xs 1).toInt = (4 : Int) := fun h9 => cz63 (zi_eq.mpr h9)
      have z5 : ¬ (xs 1).toInt = (5 : Int) := fun h9 => cz64 (zi_eq.mpr h9)
      have z6 : ¬ (xs 1).toInt = (6 : Int) := fun h9 => cz65 (zi_eq.mpr h9)
      have z7 : ¬ (xs 1).toInt = (7 : Int) := fun h9 => cz66 (zi_eq.mpr h9)
      have z8 : ¬ (xs 1).toInt = (8 : Int) := fun h9 => cz67 (zi_eq.mpr h9)
      have z9 : ¬ (xs 1).toInt = (9 : Int) := fun h9 => cz68 (zi_eq.mpr h9)
      have z10 : (xs 1).toInt = (10 : Int) := zi_eq.mp cz69
      have z11 : ¬ (xs 1).toInt < (0 : Int) := by intro h9; apply cz361; rw [zi_ltL]; simp only [Int32.toInt_toInt64]; exact h9
      have z12 : (7 : Int) < (xs 1).toInt := by have h9 := zi_ltL.mp cz362; simp only [Int32.toInt_toInt64] at h9; exact h9
      have z13 : ¬ (xs 1).toInt = (8 : Int) := fun h9 => cz363 (zi_eq.mpr h9)
      have z14 : (xs 1).toInt = (9 : Int) := zi_eq.mp cz364
      omega
    · skip
      refine lv_icmp_eq (tgt := 2293) hx hb dL_law_2063 (by decide) (fun cz377 => ?_) (fun cz377 => ?_)
      · skip
        exact law_end (dC := dC) (dI := dI) (Nat.le_of_eq hL6) C0 A hAe (q 0) (r 0) H locs hS ls hl
      · skip
        exact absurd cz377 (by decide)
    · skip
      have z0 : ¬ (xs 1).toInt = (0 : Int) := fun h9 => cz59 (zi_eq.mpr h9)
      have z1 : ¬ (xs 1).toInt = (1 : Int) := fun h9 => cz60 (zi_eq.mpr h9)
      have z2 : ¬ (xs 1).toInt = (2 : Int) := fun h9 => cz61 (zi_eq.mpr h9)
      have z3 : ¬ (xs 1).toInt = (3 : Int) := fun h9 => cz62 (zi_eq.mpr h9)
      have z4 : ¬ (xs 1).toInt = (4 : Int) := fun h9 => cz63 (zi_eq.mpr h9)
      have z5 : ¬ (xs 1).toInt = (5 : Int) := fun h9 => cz64 (zi_eq.mpr h9)
      have z6 : ¬ (xs 1).toInt = (6 : Int) := fun h9 => cz65 (zi_eq.mpr h9)
      have z7 : ¬ (xs 1).toInt = (7 : Int) := fun h9 => cz66 (zi_eq.mpr h9)
      have z8 : ¬ (xs 1).toInt = (8 : Int) := fun h9 => cz67 (zi_eq.mpr h9)
      have z9 : ¬ (xs 1).toInt = (9 : Int) := fun h9 => cz68 (zi_eq.mpr h9)
      have z10 : (xs 1).toInt = (10 : Int) := zi_eq.mp cz69
      have z11 : ¬ (xs 1).toInt < (0 : Int) := by intro h9; apply cz370; rw [zi_ltL]; simp only [Int32.toInt_toInt64]; exact h9
      have z12 : (7 : Int) < (xs 1).toInt := by have h9 := zi_ltL.mp cz371; simp only [Int32.toInt_toInt64] at h9; exact h9
      have z13 : ¬ (xs 1).toInt = (8 : Int) := fun h9 => cz372 (zi_eq.mpr h9)
      have z14 : ¬ (xs 1).toInt = (9 : Int) := fun h9 => cz373 (zi_eq.mpr h9)
      have z15 : ¬ (xs 1).toInt = (10 : Int) := fun h9 => cz374 (zi_eq.mpr h9)
      omega
    · skip
      have z0 : ¬ (xs 1).toInt = (0 : Int) := fun h9 => cz59 (zi_eq.mpr h9)
      have z1 : ¬ (xs 1).toInt = (1 : Int) := fun h9 => cz60 (zi_eq.mpr h9)
      have z2 : ¬ (xs 1).toInt = (2 : Int) := fun h9 => cz61 (zi_eq.mpr h9)
      have z3 : ¬ (xs 1).toInt = (3 : Int) := fun h9 => cz62 (zi_eq.mpr h9)
      have z4 : ¬ (xs 1).toInt = (4 : Int) := fun h9 => cz63 (zi_eq.mpr h9)
      have z5 : ¬ (xs 1).toInt = (5 : Int) := fun h9 => cz64 (zi_eq.mpr h9)
      have z6 : ¬ (xs 1).toInt = (6 : Int) := fun h9 => cz65 (zi_eq.mpr h9)
      have z7 : ¬ (xs 1).toInt = (7 : Int) := fun h9 => cz66 (zi_eq.mpr h9)
      have z8 : ¬ (xs 1).toInt = (8 : Int) := fun h9 => cz67 (zi_eq.mpr h9)
      have z9 : ¬ (xs 1).toInt = (9 : Int) := fun h9 => cz68 (zi_eq.mpr h9)
      have z10 : (xs 1).toInt = (10 : Int) := zi_eq.mp cz69
      have z11 : ¬ (xs 1).toInt < (0 : Int) := by intro h9; apply cz375; rw [zi_ltL]; simp only [Int32.toInt_toInt64]; exact h9
      have z12 : ¬ (7 : Int) < (xs 1).toInt := by intro h9; apply cz376; rw [zi_ltL]; simp only [Int32.toInt_toInt64]; exact h9
      omega
  · skip
    refine lv_aload_n hx hb dL_law_2054 rfl (lv_at hl 2 rfl) ?_
    refine lv_aload_n hx hb dL_law_2055 rfl (lv_at hl 0 rfl) ?_
    refine lv_iload_n hx hb dL_law_2056 rfl (lv_at hl 3 rfl) ?_
    refine lv_iconst (v := 1) hx hb dL_law_2057 (by decide) ?_
    refine lv_iadd hx hb dL_law_2058 ?_
    refine lv_topi (fun xz378 exz378 => ?_)
    obtain rfl : xz378 = 1 := exz378.trans (by decide)
    refine va_sld hx hb hX hbl hbA hS (by rw [hL6]; unfold vp_in; decide) dL_law_2059 ?_
    refine W.eq (g2 := F0 m 2060 ls [.int (xs 1), .ref (r 0), .int (-1)]) rfl ?_
    have hPc := hP.sub (ws' := [((r 0), .inr (12, [.int 0, .ref (r 1), .ref (r 2), .ref (r 3), .ref (r 4), .ref (r 5), .int 0, .int 0, .int 0, .int 0, .int 0, .long 0, .int 0, .int 0, .int 0, .int (-1), .ref (r 6), .ref (r 7), .ref (r 8), .ref (r 9), .ref (r 10), .ref (r 11), .ref (r 12), .ref (r 13), .int 0, .int 0, .int 0, .ref (r 14), .ref (r 15), .ref (r 16), .ref (r 17), .ref (r 18), .ref (r 19), .ref (r 20), .ref (r 21), .ref (r 22), .ref (r 23), .ref (r 24), .ref (r 25), .ref (r 26), .ref (r 27), .ref (r 28), .ref (r 29), .int 0, .int 0, .int 0, .ref (r 30), .int 0, .int 0, .int 0, .int 0, .int 0, .int 0, .ref (r 31), .int 0, .int 0, .int 0, .ref (r 32), .ref (r 33)])), ((r 7), .inl ((j 5), 40, .inl (fun _ => 0))), ((r 6), .inl ((j 4), 5, .inl (fun _ => 0))), ((r 1), .inl ((j 0), 4, .inl (upd (upd (upd (upd (fun _ => 0) 0 (-1)) 1 (-1)) 2 (-1)) 3 (-1))))]) [78, 84, 83, 79] rfl
    have hKc := hK.sub (tys' := [((j 5), .int), ((j 4), .int), ((j 0), .int)]) [61, 60, 56] rfl
    have hDc := hD.sub (ws' := [((r 0), .inr (12, [.int 0, .ref (r 1), .ref (r 2), .ref (r 3), .ref (r 4), .ref (r 5), .int 0, .int 0, .int 0, .int 0, .int 0, .long 0, .int 0, .int 0, .int 0, .int (-1), .ref (r 6), .ref (r 7), .ref (r 8), .ref (r 9), .ref (r 10), .ref (r 11), .ref (r 12), .ref (r 13), .int 0, .int 0, .int 0, .ref (r 14), .ref (r 15), .ref (r 16), .ref (r 17), .ref (r 18), .ref (r 19), .ref (r 20), .ref (r 21), .ref (r 22), .ref (r 23), .ref (r 24), .ref (r 25), .ref (r 26), .ref (r 27), .ref (r 28), .ref (r 29), .int 0, .int 0, .int 0, .ref (r 30), .int 0, .int 0, .int 0, .int 0, .int 0, .int 0, .ref (r 31), .int 0, .int 0, .int 0, .ref (r 32), .ref (r 33)])), ((r 7), .inl ((j 5), 40, .inl (fun _ => 0))), ((r 6), .inl ((j 4), 5, .inl (fun _ => 0))), ((r 1), .inl ((j 0), 4, .inl (upd (upd (upd (upd (fun _ => 0) 0 (-1)) 1 (-1)) 2 (-1)) 3 (-1))))]) [78, 84, 83, 79] (by decide) rfl
    have hFc := va_free (wc := [((r 0), .inr (12, [.int 0, .ref (r 1), .ref (r 2), .ref (r 3), .ref (r 4), .ref (r 5), .int 0, .int 0, .int 0, .int 0, .int 0, .long 0, .int 0, .int 0, .int 0, .int (-1), .ref (r 6), .ref (r 7), .ref (r 8), .ref (r 9), .ref (r 10), .ref (r 11), .ref (r 12), .ref (r 13), .int 0, .int 0, .int 0, .ref (r 14), .ref (r 15), .ref (r 16), .ref (r 17), .ref (r 18), .ref (r 19), .ref (r 20), .ref (r 21), .ref (r 22), .ref (r 23), .ref (r 24), .ref (r 25), .ref (r 26), .ref (r 27), .ref (r 28), .ref (r 29), .int 0, .int 0, .int 0, .ref (r 30), .int 0, .int 0, .int 0, .int 0, .int 0, .int 0, .ref (r 31), .int 0, .int 0, .int 0, .ref (r 32), .ref (r 33)])), ((r 7), .inl ((j 5), 40, .inl (fun _ => 0))), ((r 6), .inl ((j 4), 5, .inl (fun _ => 0))), ((r 1), .inl ((j 0), 4, .inl (upd (upd (upd (upd (fun _ => 0) 0 (-1)) 1 (-1)) 2 (-1)) 3 (-1))))]) hD hS hA [78, 84, 83, 79] rfl
    refine va_calli (va_runV (As := [.int (xs 1)]) (rest := [.int (-1)]) ⟨hx, hb, hml, hown, hts⟩ (f_X12_count l dC dI H.size ((r 0)) ((r 1)) ((r 2)) ((r 3)) ((r 4)) ((r 5)) ((r 6)) ((r 7)) ((r 8)) ((r 9)) ((r 10)) ((r 11)) ((r 12)) ((r 13)) ((r 14)) ((r 15)) ((r 16)) ((r 17)) ((r 18)) ((r 19)) ((r 20)) ((r 21)) ((r 22)) ((r 23)) ((r 24)) ((r 25)) ((r 26)) ((r 27)) ((r 28)) ((r 29)) ((r 30)) ((r 31)) ((r 32)) ((r 33)) ((j 5)) ((j 4)) ((j 0)) ((xs 1))) (cwV 1 hts (gk_V tw_1097 tw_1098 tw_1099 tw_505 wki_f_X12_count wkg_f_X12_count) rfl rfl rfl (by decide +kernel) ⟨Nat.le_of_ble_eq_true rfl, Nat.le_of_ble_eq_true rfl⟩) ⟨fun a U g mk q => by obtain ⟨q0, q1, qP, qK, qD⟩ := q; exact ⟨q0, q1, qP, va_K.moved (u := U) (U := U.calling g mk a) (Vm.Alike.refl U.vm) qK, qD⟩, va_recv hKc hPc (ci := 12) (q0 := 0) rfl rfl, fun U hU hW => ⟨rfl, by rw [hU], by rw [hU]; exact hPc, va_K.moved hW.alike hKc, hDc.weaken (fun _ _ _ _ => trivial)⟩⟩ rfl rfl hl.1 rfl (lv_room (Nat.le_of_ble_eq_true rfl)) dL_law_2060 ⟨Nat.le_of_ble_eq_true rfl, Nat.le_of_ble_eq_true rfl⟩) hS (fun q _ h => hFc q h) hFc (fun oz380 u t H1 locs ht hvm gz379 hB hz1 hk1 hS => ?_)
    generalize H1 = H at hS ⊢
    refine W.widen (k := 305) (n := 4995) (Nat.le_of_ble_eq_true rfl) (Nat.le_of_ble_eq_true rfl) ?_
    rcases gz379 with ⟨rfl, cz381, cz382, cz383, cz384⟩ | ⟨rfl, cz385, cz386, cz387⟩ | ⟨rfl, cz388, cz389, cz390, cz391⟩ | ⟨rfl, cz392, cz393, cz394, cz395, cz396⟩ | ⟨rfl, cz397, cz398, cz399, cz400, cz401⟩ | ⟨rfl, cz402, cz403⟩
    · skip
      refine lv_icmp_eq (tgt := 2293) hx hb dL_law_2063 (by decide) (fun cz404 => ?_) (fun cz404 => ?_)
      · skip
        exact law_end (dC := dC) (dI := dI) (Nat.le_of_eq hL6) C0 A hAe (q 0) (r 0) H locs hS ls hl
      · skip
        exact absurd cz404 (by decide)
    · skip
      have z0 : ¬ (xs 1).toInt = (0 : Int) := fun h9 => cz70 (zi_eq.mpr h9)
      have z1 : ¬ (xs 1).toInt = (1 : Int) := fun h9 => cz71 (zi_eq.mpr h9)
      have z2 : ¬ (xs 1).toInt = (2 : Int) := fun h9 => cz72 (zi_eq.mpr h9)
      have z3 : ¬ (xs 1).toInt = (3 : Int) := fun h9 => cz73 (zi_eq.mpr h9)
      have z4 : ¬ (xs 1).toInt = (4 : Int) := fun h9 => cz74 (zi_eq.mpr h9)
      have z5 : ¬ (xs 1).toInt = (5 : Int) := fun h9 => cz75 (zi_eq.mpr h9)
      have z6 : ¬ (xs 1).toInt = (6 : Int) := fun h9 => cz76 (zi_eq.mpr h9)
      have z7 : ¬ (xs 1).toInt = (7 : Int) := fun h9 => cz77 (zi_eq.mpr h9)
      have z8 : ¬ (xs 1).toInt = (8 : Int) := fun h9 => cz78 (zi_eq.mpr h9)
      have z9 : ¬ (xs 1).toInt = (9 : Int) := fun h9 => cz79 (zi_eq.mpr h9)
      have z10 : ¬ (xs 1).toInt = (10 : Int) := fun h9 => cz80 (zi_eq.mpr h9)
      have z11 : ¬ (xs 1).toInt < (0 : Int) := by intro h9; apply cz385; rw [zi_ltL]; simp only [Int32.toInt_toInt64]; exact h9
      have z12 : (7 : Int) < (xs 1).toInt := by have h9 := zi_ltL.mp cz386; simp only [Int32.toInt_toInt64] at h9; exact h9
      have z13 : (xs 1).toInt = (8 : Int) := zi_eq.mp cz387
      omega
    · skip
      have z0 : ¬ (xs 1).toInt = (0 : Int) := fun h9 => cz70 (zi_eq.mpr h9)
      have z1 : ¬ (xs 1).toInt = (1 : Int) := fun h9 => cz71 (zi_eq.mpr h9)
      have z2 : ¬ (xs 1).toInt = (2 : Int) := fun h9 => cz72 (zi_eq.mpr h9)
      have z3 : ¬ (xs 1).toInt = (3 : Int) := fun h9 => cz73 (zi_eq.mpr h9)
      have z4 : ¬ (xs 1).toInt = (4 : Int) := fun h9 => cz74 (zi_eq.mpr h9)
      have z5 : ¬ (xs 1).toInt = (5 : Int) := fun h9 => cz75 (zi_eq.mpr h9)
      have z6 : ¬ (xs 1).toInt = (6 : Int) := fun h9 => cz76 (zi_eq.mpr h9)
      have z7 : ¬ (xs 1).toInt = (7 : Int) := fun h9 => cz77 (zi_eq.mpr h9)
      have z8 : ¬ (xs 1).toInt = (8 : Int) := fun h9 => cz78 (zi_eq.mpr h9)
      have z9 : ¬ (xs 1).toInt = (9 : Int) := fun h9 => cz79 (zi_eq.mpr h9)
      have z10 : ¬ (xs 1).toInt = (10 : Int) := fun h9 => cz80 (zi_eq.mpr h9)
      have z11 : ¬ (xs 1).toInt < (0 : Int) := by intro h9; apply cz388; rw [zi_ltL]; simp only [Int32.toInt_toInt64]; exact h9
      have z12 : (7 : Int) < (xs 1).toInt := by have h9 := zi_ltL.mp cz389; simp only [Int32.toInt_toInt64] at h9; exact h9
      have z13 : ¬ (xs 1).toInt = (8 : Int) := fun h9 => cz390 (zi_eq.mpr h9)
      have z14 : (xs 1).toInt = (9 : Int) := zi_eq.mp cz391
      omega
    · skip
      have z0 : ¬ (xs 1).toInt = (0 : Int) := fun h9 => cz70 (zi_eq.mpr h9)
      have z1 : ¬ (xs 1).toInt = (1 : Int) := fun h9 => cz71 (zi_eq.mpr h9)
      have z2 : ¬ (xs 1).toInt = (2 : Int) := fun h9 => cz72 (zi_eq.mpr h9)
      have z3 : ¬ (xs 1).toInt = (3 : Int) := fun h9 => cz73 (zi_eq.mpr h9)
      have z4 : ¬ (xs 1).toInt = (4 : Int) := fun h9 => cz74 (zi_eq.mpr h9)
      have z5 : ¬ (xs 1).toInt = (5 : Int) := fun h9 => cz75 (zi_eq.mpr h9)
      have z6 : ¬ (xs 1).toInt = (6 : Int) := fun h9 => cz76 (zi_eq.mpr h9)
      have z7 : ¬ (xs 1).toInt = (7 : Int) := fun h9 => cz77 (zi_eq.mpr h9)
      have z8 : ¬ (xs 1).toInt = (8 : Int) := fun h9 => cz78 (zi_eq.mpr h9)
      have z9 : ¬ (xs 1).toInt = (9 : Int) := fun h9 => cz79 (zi_eq.mpr h9)
      have z10 : ¬ (xs 1).toInt = (10 : Int) := fun h9 => cz80 (zi_eq.mpr h9)
      have z11 : ¬ (xs 1).toInt < (0 : Int) := by intro h9; apply cz392; rw [zi_ltL]; simp only [Int32.toInt_toInt64]; exact h9
      have z12 : (7 : Int) < (xs 1).toInt := by have h9 := zi_ltL.mp cz393; simp only [Int32.toInt_toInt64] at h9; exact h9
      have z13 : ¬ (xs 1).toInt = (8 : Int) := fun h9 => cz394 (zi_eq.mpr h9)
      have z14 : ¬ (xs 1).toInt = (9 : Int) := fun h9 => cz395 (zi_eq.mpr h9)
      have z15 : (xs 1).toInt = (10 : Int) := zi_eq.mp cz396
      omega
    · skip
      refine lv_icmp_eq (tgt := 2293) hx hb dL_law_2063 (by decide) (fun cz405 => ?_) (fun cz405 => ?_)
      · skip
        exact law_end (dC := dC) (dI := dI) (Nat.le_of_eq hL6) C0 A hAe (q 0) (r 0) H locs hS ls hl
      · skip
        exact absurd cz405 (by decide)
    · skip
      have z0 : ¬ (xs 1).toInt = (0 : Int) := fun h9 => cz70 (zi_eq.mpr h9)
      have z1 : ¬ (xs 1).toInt = (1 : Int) := fun h9 => cz71 (zi_eq.mpr h9)
      have z2 : ¬ (xs 1).toInt = (2 : Int) := fun h9 => cz72 (zi_eq.mpr h9)
      have z3 : ¬ (xs 1).toInt = (3 : Int) := fun h9 => cz73 (zi_eq.mpr h9)
      have z4 : ¬ (xs 1).toInt = (4 : Int) := fun h9 => cz74 (zi_eq.mpr h9)
      have z5 : ¬ (xs 1).toInt = (5 : Int) := fun h9 => cz75 (zi_eq.mpr h9)
      have z6 : ¬ (xs 1).toInt = (6 : Int) := fun h9 => cz76 (zi_eq.mpr h9)
      have z7 : ¬ (xs 1).toInt = (7 : Int) := fun h9 => cz77 (zi_eq.mpr h9)
      have z8 : ¬ (xs 1).toInt = (8 : Int) := fun h9 => cz78 (zi_eq.mpr h9)
      have z9 : ¬ (xs 1).toInt = (9 : Int) := fun h9 => cz79 (zi_eq.mpr h9)
      have z10 : ¬ (xs 1).toInt = (10 : Int) := fun h9 => cz80 (zi_eq.mpr h9)
      have z11 : ¬ (xs 1).toInt < (0 : Int) := by intro h9; apply cz402; rw [zi_ltL]; simp only [Int32.toInt_toInt64]; exact h9
      have z12 : ¬ (7 : Int) < (xs 1).toInt := by intro h9; apply cz403; rw [zi_ltL]; simp only [Int32.toInt_toInt64]; exact h9
      omega
set_option maxHeartbeats 4000000 in
set_option maxRecDepth 100000 in
theorem law_case_67 {p : Program} {l : Launch} {e : Env} {s : State} {m : MethodId} {below : List Frame} {meth : Method} {c : Code} {dC : Nat → ClassId} {dI : Nat → Nat → Nat} {b L : Nat} {xs : Nat → Int32} (hL6 : L = 6) (C0 : lw_At p s m meth c b L xs) (A : Nat → Prop) (hAe : A = fun q => s.heap.size ≤ q) (q r : Nat → Nat) (k j : Nat → ClassId) (H : Heap) (locs : List Loc) (hK : va_K (dC, dI) vwCl (tX k ++ tM j) s) (hP : va_P (dC, dI) vwCl (wX q k ++ wM r j) H) (hD : va_D A (wX q k ++ wM r j)) (hS : va_S A s.heap H locs) (ls : Array Slot) (hl : lv_has ls 4 [(0, .ref b), (1, .ref (q 0)), (2, .ref (r 0)), (3, .int 0)]) : W p l e room_1 s m #[Value.ref b] below meth c H locs 305 4995 (lw_Z below #[Value.ref b] s) (F0 m 2068 ls []) := by
  obtain ⟨hx, hb, hr, hml, hown, hts, hX, hbl, hlocks, hgv⟩ := id C0
  have hown : s.vm.findClass RL = some m.cls := hown
  have hA : ∀ q : Nat, s.heap.size ≤ q → A q := by rw [hAe]; exact fun _ h => h
  have hbA : ¬ A b := by rw [hAe]; exact Nat.not_le.mpr hbl
  refine lv_aload_n hx hb dL_law_2068 rfl (lv_at hl 1 rfl) ?_
  refine lv_aload_n hx hb dL_law_2069 rfl (lv_at hl 0 rfl) ?_
  refine lv_iload_n hx hb dL_law_2070 rfl (lv_at hl 3 rfl) ?_
  refine lv_iconst (v := 1) hx hb dL_law_2071 (by decide) ?_
  refine lv_iadd hx hb dL_law_2072 ?_
  refine lv_topi (fun xz1 exz1 => ?_)
  obtain rfl : xz1 = 1 := exz1.trans (by decide)
  refine va_sld hx hb hX hbl hbA hS (by rw [hL6]; unfold vp_in; decide) dL_law_2073 ?_
  refine W.eq (g2 := F0 m 2074 ls [.int (xs 1), .ref (q 0)]) rfl ?_
  have hPc := hP.sub (ws' := [((q 0), .inr (11, [.ref (q 1), .ref (q 2), .ref (q 3), .ref (q 4), .ref (q 5), .ref (q 6), .ref (q 7), .ref (q 8), .ref (q 9), .ref (q 10), .ref (q 11), .ref (q 12), .ref (q 13), .ref (q 14), .ref (q 15)])), ((q 15), .inl ((k 25), 3, .inr (.inr (.inr (.inr (va_up (va_up (va_up (fun _ => none) 0 (some (q 51))) 1 (some (q 52))) 2 (some (q 53)))))))), ((q 2), .inr (10, [.ref (q 25), .ref (q 26), .ref (q 27), .ref (q 28), .ref (q 29), .ref (q 30), .ref (q 31), .int 0, .int 0, .int 0, .int 0, .int 0, .int 0, .int 0, .int 0, .int 0])), ((q 25), .inl ((k 8), 3, .inl (fun _ => 0))), ((q 26), .inl ((k 9), 3, .inl (fun _ => 0))), ((q 27), .inl ((k 10), 7, .inl (fun _ => 0))), ((q 28), .inl ((k 11), 7, .inl (fun _ => 0))), ((q 29), .inl ((k 12), 5, .inl (fun _ => 0))), ((q 30), .inl ((k 13), 5, .inl (fun _ => 0))), ((q 31), .inl ((k 14), 5, .inl (fun _ => 0))), ((q 3), .inr (0, [.ref (q 32), .ref (q 33), .ref (q 34), .int 0])), ((q 32), .inl ((k 15), 30, .inl (fun _ => 0))), ((q 33), .inl ((k 16), 30, .inl (fun _ => 0))), ((q 34), .inl ((k 17), 30, .inl (fun _ => 0))), ((q 51), .inr (1, [.ref (q 54), .ref (q 55), .int 0])), ((q 54), .inr (10, [.ref (q 56), .ref (q 57), .ref (q 58), .ref (q 59), .ref (q 60), .ref (q 61), .ref (q 62), .int 0, .int 0, .int 0, .int 0, .int 0, .int 0, .int 0, .int 0, .int 0])), ((q 56), .inl ((k 26), 3, .inl (fun _ => 0))), ((q 57), .inl ((k 27), 3, .inl (fun _ => 0))), ((q 58), .inl ((k 28), 7, .inl (fun _ => 0))), ((q 59), .inl ((k 29), 7, .inl (fun _ => 0))), ((q 60), .inl ((k 30), 5, .inl (fun _ => 0))), ((q 61), .inl ((k 31), 5, .inl (fun _ => 0))), ((q 62), .inl ((k 32), 5, .inl (fun _ => 0))), ((q 55), .inr (0, [.ref (q 63), .ref (q 64), .ref (q 65), .int 0])), ((q 63), .inl ((k 33), 30, .inl (fun _ => 0))), ((q 64), .inl ((k 34), 30, .inl (fun _ => 0))), ((q 65), .inl ((k 35), 30, .inl (fun _ => 0))), ((q 52), .inr (1, [.ref (q 66), .ref (q 67), .int 0])), ((q 66), .inr (10, [.ref (q 68), .ref (q 69), .ref (q 70), .ref (q 71), .ref (q 72), .ref (q 73), .ref (q 74), .int 0, .int 0, .int 0, .int 0, .int 0, .int 0, .int 0, .int 0, .int 0])), ((q 68), .inl ((k 36), 3, .inl (fun _ => 0))), ((q 69), .inl ((k 37), 3, .inl (fun _ => 0))), ((q 70), .inl ((k 38), 7, .inl (fun _ => 0))), ((q 71), .inl ((k 39), 7, .inl (fun _ => 0))), ((q 72), .inl ((k 40), 5, .inl (fun _ => 0))), ((q 73), .inl ((k 41), 5, .inl (fun _ => 0))), ((q 74), .inl ((k 42), 5, .inl (fun _ => 0))), ((q 67), .inr (0, [.ref (q 75), .ref (q 76), .ref (q 77), .int 0])), ((q 75), .inl ((k 43), 30, .inl (fun _ => 0))), ((q 76), .inl ((k 44), 30, .inl (fun _ => 0))), ((q 77), .inl ((k 45), 30, .inl (fun _ => 0))), ((q 53), .inr (1, [.ref (q 78), .ref (q 79), .int 0])), ((q 78), .inr (10, [.ref (q 80), .ref (q 81), .ref (q 82), .ref (q 83), .ref (q 84), .ref (q 85), .ref (q 86), .int 0, .int 0, .int 0, .int 0, .int 0, .int 0, .int 0, .int 0, .int 0])), ((q 80), .inl ((k 46), 3, .inl (fun _ => 0))), ((q 81), .inl ((k 47), 3, .inl (fun _ => 0))), ((q 82), .inl ((k 48), 7, .inl (fun _ => 0))), ((q 83), .inl ((k 49), 7, .inl (fun _ => 0))), ((q 84), .inl ((k 50), 5, .inl (fun _ => 0))), ((q 85), .inl ((k 51), 5, .inl (fun _ => 0))), ((q 86), .inl ((k 52), 5, .inl (fun _ => 0))), ((q 79), .inr (0, [.ref (q 87), .ref (q 88), .ref (q 89), .int 0])), ((q 87), .inl ((k 53), 30, .inl (fun _ => 0))), ((q 88), .inl ((k 54), 30, .inl (fun _ => 0))), ((q 89), .inl ((k 55), 30, .inl (fun _ => 0)))]) [0, 38, 11, 12, 13, 14, 15, 16, 17, 18, 19, 20, 21, 22, 39, 40, 41, 42, 43, 44, 45, 46, 47, 48, 49, 50, 51, 52, 53, 54, 55, 56, 57, 58, 59, 60, 61, 62, 63, 64, 65, 66, 67, 68, 69, 70, 71, 72, 73, 74, 75, 76, 77] rfl
  have hKc := hK.sub (tys' := [((k 25), .object RX1), ((k 8), .int), ((k 9), .int), ((k 10), .int), ((k 11), .int), ((k 12), .int), ((k 13), .int), ((k 14), .int), ((k 15), .int), ((k 16), .int), ((k 17), .int), ((k 26), .int), ((k 27), .int), ((k 28), .int), ((k 29), .int), ((k 30), .int), ((k 31), .int), ((k 32), .int), ((k 33), .int), ((k 34), .int), ((k 35), .int), ((k 36), .int), ((k 37), .int), ((k 38), .int), ((k 39), .int), ((k 40), .int), ((k 41), .int), ((k 42), .int), ((k 43), .int), ((k 44), .int), ((k 45), .int), ((k 46), .int), ((k 47), .int), ((k 48), .int), ((k 49), .int), ((k 50), .int), ((k 51), .int), ((k 52), .int), ((k 53), .int), ((k 54), .int), ((k 55), .int)]) [25, 8, 9, 10, 11, 12, 13, 14, 15, 16, 17, 26, 27, 28, 29, 30, 31, 32, 33, 34, 35, 36, 37, 38, 39, 40, 41, 42, 43, 44, 45, 46, 47, 48, 49, 50, 51, 52, 53, 54, 55] rfl
  have hDc := hD.sub (ws' := [((q 0), .inr (11, [.ref (q 1), .ref (q 2), .ref (q 3), .ref (q 4), .ref (q 5), .ref (q 6), .ref (q 7), .ref (q 8), .ref (q 9), .ref (q 10), .ref (q 11), .ref (q 12), .ref (q 13), .ref (q 14), .ref (q 15)])), ((q 15), .inl ((k 25), 3, .inr (.inr (.inr (.inr (va_up (va_up (va_up (fun _ => none) 0 (some (q 51))) 1 (some (q 52))) 2 (some (q 53)))))))), ((q 2), .inr (10, [.ref (q 25), .ref (q 26), .ref (q 27), .ref (q 28), .ref (q 29), .ref (q 30), .ref (q 31), .int 0, .int 0, .int 0, .int 0, .int 0, .int 0, .int 0, .int 0, .int 0])), ((q 25), .inl ((k 8), 3, .inl (fun _ => 0))), ((q 26), .inl ((k 9), 3, .inl (fun _ => 0))), ((q 27), .inl ((k 10), 7, .inl (fun _ => 0))), ((q 28), .inl ((k 11), 7, .inl (fun _ => 0))), ((q 29), .inl ((k 12), 5, .inl (fun _ => 0))), ((q 30), .inl ((k 13), 5, .inl (fun _ => 0))), ((q 31), .inl ((k 14), 5, .inl (fun _ => 0))), ((q 3), .inr (0, [.ref (q 32), .ref (q 33), .ref (q 34), .int 0])), ((q 32), .inl ((k 15), 30, .inl (fun _ => 0))), ((q 33), .inl ((k 16), 30, .inl (fun _ => 0))), ((q 34), .inl ((k 17), 30, .inl (fun _ => 0))), ((q 51), .inr (1, [.ref (q 54), .ref (q 55), .int 0])), ((q 54), .inr (10, [.ref (q 56), .ref (q 57), .ref (q 58), .ref (q 59), .ref (q 60), .ref (q 61), .ref (q 62), .int 0, .int 0, .int 0, .int 0, .int 0, .int 0, .int 0, .int 0, .int 0])), ((q 56), .inl ((k 26), 3, .inl (fun _ => 0))), ((q 57), .inl ((k 27), 3, .inl (fun _ => 0))), ((q 58), .inl ((k 28), 7, .inl (fun _ => 0))), ((q 59), .inl ((k 29), 7, .inl (fun _ => 0))), ((q 60), .inl ((k 30), 5, .inl (fun _ => 0))), ((q 61), .inl ((k 31), 5, .inl (fun _ => 0))), ((q 62), .inl ((k 32), 5, .inl (fun _ => 0))), ((q 55), .inr (0, [.ref (q 63), .ref (q 64), .ref (q 65), .int 0])), ((q 63), .inl ((k 33), 30, .inl (fun _ => 0))), ((q 64), .inl ((k 34), 30, .inl (fun _ => 0))), ((q 65), .inl ((k 35), 30, .inl (fun _ => 0))), ((q 52), .inr (1, [.ref (q 66), .ref (q 67), .int 0])), ((q 66), .inr (10, [.ref (q 68), .ref (q 69), .ref (q 70), .ref (q 71), .ref (q 72), .ref (q 73), .ref (q 74), .int 0, .int 0, .int 0, .int 0, .int 0, .int 0, .int 0, .int 0, .int 0])), ((q 68), .inl ((k 36), 3, .inl (fun _ => 0))), ((q 69), .inl ((k 37), 3, .inl (fun _ => 0))), ((q 70), .inl ((k 38), 7, .inl (fun _ => 0))), ((q 71), .inl ((k 39), 7, .inl (fun _ => 0))), ((q 72), .inl ((k 40), 5, .inl (fun _ => 0))), ((q 73), .inl ((k 41), 5, .inl (fun _ => 0))), ((q 74), .inl ((k 42), 5, .inl (fun _ => 0))), ((q 67), .inr (0, [.ref (q 75), .ref (q 76), .ref (q 77), .int 0])), ((q 75), .inl ((k 43), 30, .inl (fun _ => 0))), ((q 76), .inl ((k 44), 30, .inl (fun _ => 0))), ((q 77), .inl ((k 45), 30, .inl (fun _ => 0))), ((q 53), .inr (1, [.ref (q 78), .ref (q 79), .int 0])), ((q 78), .inr (10, [.ref (q 80), .ref (q 81), .ref (q 82), .ref (q 83), .ref (q 84), .ref (q 85), .ref (q 86), .int 0, .int 0, .int 0, .int 0, .int 0, .int 0, .int 0, .int 0, .int 0])), ((q 80), .inl ((k 46), 3, .inl (fun _ => 0))), ((q 81), .inl ((k 47), 3, .inl (fun _ => 0))), ((q 82), .inl ((k 48), 7, .inl (fun _ => 0))), ((q 83), .inl ((k 49), 7, .inl (fun _ => 0))), ((q 84), .inl ((k 50), 5, .inl (fun _ => 0))), ((q 85), .inl ((k 51), 5, .inl (fun _ => 0))), ((q 86), .inl ((k 52), 5, .inl (fun _ => 0))), ((q 79), .inr (0, [.ref (q 87), .ref (q 88), .ref (q 89), .int 0])), ((q 87), .inl ((k 53), 30, .inl (fun _ => 0))), ((q 88), .inl ((k 54), 30, .inl (fun _ => 0))), ((q 89), .inl ((k 55), 30, .inl (fun _ => 0)))]) [0, 38, 11, 12, 13, 14, 15, 16, 17, 18, 19, 20, 21, 22, 39, 40, 41, 42, 43, 44, 45, 46, 47, 48, 49, 50, 51, 52, 53, 54, 55, 56, 57, 58, 59, 60, 61, 62, 63, 64, 65, 66, 67, 68, 69, 70, 71, 72, 73, 74, 75, 76, 77] (by decide) rfl
  have hFc := va_free (wc := [((q 0), .inr (11, [.ref (q 1), .ref (q 2), .ref (q 3), .ref (q 4), .ref (q 5), .ref (q 6), .ref (q 7), .ref (q 8), .ref (q 9), .ref (q 10), .ref (q 11), .ref (q 12), .ref (q 13), .ref (q 14), .ref (q 15)])), ((q 15), .inl ((k 25), 3, .inr (.inr (.inr (.inr (va_up (va_up (va_up (fun _ => none) 0 (some (q 51))) 1 (some (q 52))) 2 (some (q 53)))))))), ((q 2), .inr (10, [.ref (q 25), .ref (q 26), .ref (q 27), .ref (q 28), .ref (q 29), .ref (q 30), .ref (q 31), .int 0, .int 0, .int 0, .int 0, .int 0, .int 0, .int 0, .int 0, .int 0])), ((q 25), .inl ((k 8), 3, .inl (fun _ => 0))), ((q 26), .inl ((k 9), 3, .inl (fun _ => 0))), ((q 27), .inl ((k 10), 7, .inl (fun _ => 0))), ((q 28), .inl ((k 11), 7, .inl (fun _ => 0))), ((q 29), .inl ((k 12), 5, .inl (fun _ => 0))), ((q 30), .inl ((k 13), 5, .inl (fun _ => 0))), ((q 31), .inl ((k 14), 5, .inl (fun _ => 0))), ((q 3), .inr (0, [.ref (q 32), .ref (q 33), .ref (q 34), .int 0])), ((q 32), .inl ((k 15), 30, .inl (fun _ => 0))), ((q 33), .inl ((k 16), 30, .inl (fun _ => 0))), ((q 34), .inl ((k 17), 30, .inl (fun _ => 0))), ((q 51), .inr (1, [.ref (q 54), .ref (q 55), .int 0])), ((q 54), .inr (10, [.ref (q 56), .ref (q 57), .ref (q 58), .ref (q 59), .ref (q 60), .ref (q 61), .ref (q 62), .int 0, .int 0, .int 0, .int 0, .int 0, .int 0, .int 0, .int 0, .int 0])), ((q 56), .inl ((k 26), 3, .inl (fun _ => 0))), ((q 57), .inl ((k 27), 3, .inl (fun _ => 0))), ((q 58), .inl ((k 28), 7, .inl (fun _ => 0))), ((q 59), .inl ((k 29), 7, .inl (fun _ => 0))), ((q 60), .inl ((k 30), 5, .inl (fun _ => 0))), ((q 61), .inl ((k 31), 5, .inl (fun _ => 0))), ((q 62), .inl ((k 32), 5, .inl (fun _ => 0))), ((q 55), .inr (0, [.ref (q 63), .ref (q 64), .ref (q 65), .int 0])), ((q 63), .inl ((k 33), 30, .inl (fun _ => 0))), ((q 64), .inl ((k 34), 30, .inl (fun _ => 0))), ((q 65), .inl ((k 35), 30, .inl (fun _ => 0))), ((q 52), .inr (1, [.ref (q 66), .ref (q 67), .int 0])), ((q 66), .inr (10, [.ref (q 68), .ref (q 69), .ref (q 70), .ref (q 71), .ref (q 72), .ref (q 73), .ref (q 74), .int 0, .int 0, .int 0, .int 0, .int 0, .int 0, .int 0, .int 0, .int 0])), ((q 68), .inl ((k 36), 3, .inl (fun _ => 0))), ((q 69), .inl ((k 37), 3, .inl (fun _ => 0))), ((q 70), .inl ((k 38), 7, .inl (fun _ => 0))), ((q 71), .inl ((k 39), 7, .inl (fun _ => 0))), ((q 72), .inl ((k 40), 5, .inl (fun _ => 0))), ((q 73), .inl ((k 41), 5, .inl (fun _ => 0))), ((q 74), .inl ((k 42), 5, .inl (fun _ => 0))), ((q 67), .inr (0, [.ref (q 75), .ref (q 76), .ref (q 77), .int 0])), ((q 75), .inl ((k 43), 30, .inl (fun _ => 0))), ((q 76), .inl ((k 44), 30, .inl (fun _ => 0))), ((q 77), .inl ((k 45), 30, .inl (fun _ => 0))), ((q 53), .inr (1, [.ref (q 78), .ref (q 79), .int 0])), ((q 78), .inr (10, [.ref (q 80), .ref (q 81), .ref (q 82), .ref (q 83), .ref (q 84), .ref (q 85), .ref (q 86), .int 0, .int 0, .int 0, .int 0, .int 0, .int 0, .int 0, .int 0, .int 0])), ((q 80), .inl ((k 46), 3, .inl (fun _ => 0))), ((q 81), .inl ((k 47), 3, .inl (fun _ => 0))), ((q 82), .inl ((k 48), 7, .inl (fun _ => 0))), ((q 83), .inl ((k 49), 7, .inl (fun _ => 0))), ((q 84), .inl ((k 50), 5, .inl (fun _ => 0))), ((q 85), .inl ((k 51), 5, .inl (fun _ => 0))), ((q 86), .inl ((k 52), 5, .inl (fun _ => 0))), ((q 79), .inr (0, [.ref (q 87), .ref (q 88), .ref (q 89), .int 0])), ((q 87), .inl ((k 53), 30, .inl (fun _ => 0))), ((q 88), .inl ((k 54), 30, .inl (fun _ => 0))), ((q 89), .inl ((k 55), 30, .inl (fun _ => 0)))]) hD hS hA [0, 38, 11, 12, 13, 14, 15, 16, 17, 18, 19, 20, 21, 22, 39, 40, 41, 42, 43, 44, 45, 46, 47, 48, 49, 50, 51, 52, 53, 54, 55, 56, 57, 58, 59, 60, 61, 62, 63, 64, 65, 66, 67, 68, 69, 70, 71, 72, 73, 74, 75, 76, 77] rfl
  refine va_calli (va_runV (As := [.int (xs 1)]) (rest := []) ⟨hx, hb, hml, hown, hts⟩ (f_X11_image l dC dI H.size ((q 0)) ((q 1)) ((q 2)) ((q 3)) ((q 4)) ((q 5)) ((q 6)) ((q 7)) ((q 8)) ((q 9)) ((q 10)) ((q 11)) ((q 12)) ((q 13)) ((q 14)) ((q 15)) ((q 51)) ((q 52)) ((q 53)) ((q 54)) ((q 66)) ((q 78)) ((q 55)) ((q 67)) ((q 79)) ((k 25)) ((q 25)) ((q 26)) ((q 27)) ((q 28)) ((q 29)) ((q 30)) ((q 31)) ((k 8)) ((k 9)) ((k 10)) ((k 11)) ((k 12)) ((k 13)) ((k 14)) ((fun _ => 0)) ((fun _ => 0)) ((fun _ => 0)) ((fun _ => 0)) ((fun _ => 0)) ((fun _ => 0)) ((fun _ => 0)) ((q 32)) ((q 33)) ((q 34)) ((k 15)) ((k 16)) ((k 17)) ((fun _ => 0)) ((fun _ => 0)) ((fun _ => 0)) ((q 56)) ((q 57)) ((q 58)) ((q 59)) ((q 60)) ((q 61)) ((q 62)) ((k 26)) ((k 27)) ((k 28)) ((k 29)) ((k 30)) ((k 31)) ((k 32)) ((fun _ => 0)) ((fun _ => 0)) ((fun _ => 0)) ((fun _ => 0)) ((fun _ => 0)) ((fun _ => 0)) ((fun _ => 0)) ((q 63)) ((q 64)) ((q 65)) ((k 33)) ((k 34)) ((k 35)) ((fun _ => 0)) ((fun _ => 0)) ((fun _ => 0)) ((q 68)) ((q 69)) ((q 70)) ((q 71)) ((q 72)) ((q 73)) ((q 74)) ((k 36)) ((k 37)) ((k 38)) ((k 39)) ((k 40)) ((k 41)) ((k 42)) ((fun _ => 0)) ((fun _ => 0)) ((fun _ => 0)) ((fun _ => 0)) ((fun _ => 0)) ((fun _ => 0)) ((fun _ => 0)) ((q 75)) ((q 76)) ((q 77)) ((k 43)) ((k 44)) ((k 45)) ((fun _ => 0)) ((fun _ => 0)) ((fun _ => 0)) ((q 80)) ((q 81)) ((q 82)) ((q 83)) ((q 84)) ((q 85)) ((q 86)) ((k 46)) ((k 47)) ((k 48)) ((k 49)) ((k 50)) ((k 51)) ((k 52)) ((fun _ => 0)) ((fun _ => 0)) ((fun _ => 0)) ((fun _ => 0)) ((fun _ => 0)) ((fun _ => 0)) ((fun _ => 0)) ((q 87)) ((q 88)) ((q 89)) ((k 53)) ((k 54)) ((k 55)) ((fun _ => 0)) ((fun _ => 0)) ((fun _ => 0)) ((xs 1))) (cwV 1 hts (gk_V tw_1100 tw_1101 tw_1102 tw_157 wki_f_X11_image wkg_f_X11_image) rfl rfl rfl (by decide +kernel) ⟨Nat.le_of_ble_eq_true rfl, Nat.le_of_ble_eq_true rfl⟩) ⟨fun a U g mk q => by obtain ⟨q0, q1, qP, qK, qD⟩ := q; exact ⟨q0, q1, qP, va_K.moved (u := U) (U := U.calling g mk a) (Vm.Alike.refl U.vm) qK, qD⟩, va_recv hKc hPc (ci := 11) (q0 := 0) rfl rfl, fun U hU hW => ⟨rfl, by rw [hU], by rw [hU]; exact hPc, va_K.moved hW.alike hKc, hDc.weaken (fun _ _ _ _ => trivial)⟩⟩ rfl rfl hl.1 rfl (lv_room (Nat.le_of_ble_eq_true rfl)) dL_law_2074 ⟨Nat.le_of_ble_eq_true rfl, Nat.le_of_ble_eq_true rfl⟩) hS (fun q _ h => hFc q h) hFc (fun oz3 u t H1 locs ht hvm gz2 hB hz1 hk1 hS => ?_)
  have hP1 : va_P (dC, dI) vwCl [] H1 := fun k q h => by simp at h
  have hD1 : va_D (va_A [((q 0), .inr (11, [.ref (q 1), .ref (q 2), .ref (q 3), .ref (q 4), .ref (q 5), .ref (q 6), .ref (q 7), .ref (q 8), .ref (q 9), .ref (q 10), .ref (q 11), .ref (q 12), .ref (q 13), .ref (q 14), .ref (q 15)])), ((q 15), .inl ((k 25), 3, .inr (.inr (.inr (.inr (va_up (va_up (va_up (fun _ => none) 0 (some (q 51))) 1 (some (q 52))) 2 (some (q 53)))))))), ((q 2), .inr (10, [.ref (q 25), .ref (q 26), .ref (q 27), .ref (q 28), .ref (q 29), .ref (q 30), .ref (q 31), .int 0, .int 0, .int 0, .int 0, .int 0, .int 0, .int 0, .int 0, .int 0])), ((q 25), .inl ((k 8), 3, .inl (fun _ => 0))), ((q 26), .inl ((k 9), 3, .inl (fun _ => 0))), ((q 27), .inl ((k 10), 7, .inl (fun _ => 0))), ((q 28), .inl ((k 11), 7, .inl (fun _ => 0))), ((q 29), .inl ((k 12), 5, .inl (fun _ => 0))), ((q 30), .inl ((k 13), 5, .inl (fun _ => 0))), ((q 31), .inl ((k 14), 5, .inl (fun _ => 0))), ((q 3), .inr (0, [.ref (q 32), .ref (q 33), .ref (q 34), .int 0])), ((q 32), .inl ((k 15), 30, .inl (fun _ => 0))), ((q 33), .inl ((k 16), 30, .inl (fun _ => 0))), ((q 34), .inl ((k 17), 30, .inl (fun _ => 0))), ((q 51), .inr (1, [.ref (q 54), .ref (q 55), .int 0])), ((q 54), .inr (10, [.ref (q 56), .ref (q 57), .ref (q 58), .ref (q 59), .ref (q 60), .ref (q 61), .ref (q 62), .int 0, .int 0, .int 0, .int 0, .int 0, .int 0, .int 0, .int 0, .int 0])), ((q 56), .inl ((k 26), 3, .inl (fun _ => 0))), ((q 57), .inl ((k 27), 3, .inl (fun _ => 0))), ((q 58), .inl ((k 28), 7, .inl (fun _ => 0))), ((q 59), .inl ((k 29), 7, .inl (fun _ => 0))), ((q 60), .inl ((k 30), 5, .inl (fun _ => 0))), ((q 61), .inl ((k 31), 5, .inl (fun _ => 0))), ((q 62), .inl ((k 32), 5, .inl (fun _ => 0))), ((q 55), .inr (0, [.ref (q 63), .ref (q 64), .ref (q 65), .int 0])), ((q 63), .inl ((k 33), 30, .inl (fun _ => 0))), ((q 64), .inl ((k 34), 30, .inl (fun _ => 0))), ((q 65), .inl ((k 35), 30, .inl (fun _ => 0))), ((q 52), .inr (1, [.ref (q 66), .ref (q 67), .int 0])), ((q 66), .inr (10, [.ref (q 68), .ref (q 69), .ref (q 70), .ref (q 71), .ref (q 72), .ref (q 73), .ref (q 74), .int 0, .int 0, .int 0, .int 0, .int 0, .int 0, .int 0, .int 0, .int 0])), ((q 68), .inl ((k 36), 3, .inl (fun _ => 0))), ((q 69), .inl ((k 37), 3, .inl (fun _ => 0))), ((q 70), .inl ((k 38), 7, .inl (fun _ => 0))), ((q 71), .inl ((k 39), 7, .inl (fun _ => 0))), ((q 72), .inl ((k 40), 5, .inl (fun _ => 0))), ((q 73), .inl ((k 41), 5, .inl (fun _ => 0))), ((q 74), .inl ((k 42), 5, .inl (fun _ => 0))), ((q 67), .inr (0, [.ref (q 75), .ref (q 76), .ref (q 77), .int 0])), ((q 75), .inl ((k 43), 30, .inl (fun _ => 0))), ((q 76), .inl ((k 44), 30, .inl (fun _ => 0))), ((q 77), .inl ((k 45), 30, .inl (fun _ => 0))), ((q 53), .inr (1, [.ref (q 78), .ref (q 79), .int 0])), ((q 78), .inr (10, [.ref (q 80), .ref (q 81), .ref (q 82), .ref (q 83), .ref (q 84), .ref (q 85), .ref (q 86), .int 0, .int 0, .int 0, .int 0, .int 0, .int 0, .int 0, .int 0, .int 0])), ((q 80), .inl ((k 46), 3, .inl (fun _ => 0))), ((q 81), .inl ((k 47), 3, .inl (fun _ => 0))), ((q 82), .inl ((k 48), 7, .inl (fun _ => 0))), ((q 83), .inl ((k 49), 7, .inl (fun _ => 0))), ((q 84), .inl ((k 50), 5, .inl (fun _ => 0))), ((q 85), .inl ((k 51), 5, .inl (fun _ => 0))), ((q 86), .inl ((k 52), 5, .inl (fun _ => 0))), ((q 79), .inr (0, [.ref (q 87), .ref (q 88), .ref (q 89), .int 0])), ((q 87), .inl ((k 53), 30, .inl (fun _ => 0))), ((q 88), .inl ((k 54), 30, .inl (fun _ => 0))), ((q 89), .inl ((k 55), 30, .inl (fun _ => 0)))] H.size) [] := ⟨fun i j p q h => by simp at h, fun k q h => by simp at h⟩
  obtain ⟨hP, hD⟩ := va_join (wr := wM r j) (w1 := []) hP hD [0, 38, 11, 12, 13, 14, 15, 16, 17, 18, 19, 20, 21, 22, 39, 40, 41, 42, 43, 44, 45, 46, 47, 48, 49, 50, 51, 52, 53, 54, 55, 56, 57, 58, 59, 60, 61, 62, 63, 64, 65, 66, 67, 68, 69, 70, 71, 72, 73, 74, 75, 76, 77] [78, 79, 80, 81, 82, 83, 84, 85, 86, 87, 88, 89, 90] rfl rfl (by decide) (by decide) hk1 hFc hP1 hD1
  have hK := hK.sub (tys' := tM j) [56, 57, 58, 59, 60, 61, 62, 63, 64, 65, 66, 67] rfl
  clear hPc hKc hDc hFc hk1 hB hP1 hD1 hz1
  generalize H1 = H at hP hS ⊢
  have hP : va_P (dC, dI) vwCl (wM r j) H := hP
  have hD : va_D A (wM r j) := hD
  refine W.widen (k := 305) (n := 4995) (Nat.le_of_ble_eq_true rfl) (Nat.le_of_ble_eq_true rfl) ?_
  rcases gz2 with ⟨rfl, cz4⟩ | ⟨rfl, cz5, cz6⟩ | ⟨rfl, cz7, cz8⟩
  · skip
    refine lv_aload_n hx hb dL_law_2077 rfl (lv_at hl 2 rfl) ?_
    refine lv_aload_n hx hb dL_law_2078 rfl (lv_at hl 0 rfl) ?_
    refine lv_iload_n hx hb dL_law_2079 rfl (lv_at hl 3 rfl) ?_
    refine lv_iconst (v := 1) hx hb dL_law_2080 (by decide) ?_
    refine lv_iadd hx hb dL_law_2081 ?_
    refine lv_topi (fun xz9 exz9 => ?_)
    obtain rfl : xz9 = 1 := exz9.trans (by decide)
    refine va_sld hx hb hX hbl hbA hS (by rw [hL6]; unfold vp_in; decide) dL_law_2082 ?_
    refine W.eq (g2 := F0 m 2083 ls [.int (xs 1), .ref (r 0), .int (-2)]) rfl ?_
    have hPc := hP.sub (ws' := [((r 0), .inr (12, [.int 0, .ref (r 1), .ref (r 2), .ref (r 3), .ref (r 4), .ref (r 5), .int 0, .int 0, .int 0, .int 0, .int 0, .long 0, .int 0, .int 0, .int 0, .int (-1), .ref (r 6), .ref (r 7), .ref (r 8), .ref (r 9), .ref (r 10), .ref (r 11), .ref (r 12), .ref (r 13), .int 0, .int 0, .int 0, .ref (r 14), .ref (r 15), .ref (r 16), .ref (r 17), .ref (r 18), .ref (r 19), .ref (r 20), .ref (r 21), .ref (r 22), .ref (r 23), .ref (r 24), .ref (r 25), .ref (r 26), .ref (r 27), .ref (r 28), .ref (r 29), .int 0, .int 0, .int 0, .ref (r 30), .int 0, .int 0, .int 0, .int 0, .int 0, .int 0, .ref (r 31), .int 0, .int 0, .int 0, .ref (r 32), .ref (r 33)])), ((r 6), .inl ((j 4), 5, .inl (fun _ => 0))), ((r 7), .inl ((j 5), 40, .inl (fun _ => 0))), ((r 8), .inl ((j 6), 30, .inl (fun _ => 0))), ((r 9), .inl ((j 7), 70, .inl (fun _ => 0))), ((r 10), .inl ((j 8), 75, .inl (fun _ => 0))), ((r 11), .inl ((j 9), 20, .inl (fun _ => 0))), ((r 12), .inl ((j 10), 450, .inl (fun _ => 0))), ((r 13), .inl ((j 11), 3, .inl (fun _ => 0)))]) [0, 5, 6, 7, 8, 9, 10, 11, 12] rfl
    have hKc := hK.sub (tys' := [((j 4), .int), ((j 5), .int), ((j 6), .int), ((j 7), .int), ((j 8), .int), ((j 9), .int), ((j 10), .int), ((j 11), .boolean)]) [4, 5, 6, 7, 8, 9, 10, 11] rfl
    have hDc := hD.sub (ws' := [((r 0), .inr (12, [.int 0, .ref (r 1), .ref (r 2), .ref (r 3), .ref (r 4), .ref (r 5), .int 0, .int 0, .int 0, .int 0, .int 0, .long 0, .int 0, .int 0, .int 0, .int (-1), .ref (r 6), .ref (r 7), .ref (r 8), .ref (r 9), .ref (r 10), .ref (r 11), .ref (r 12), .ref (r 13), .int 0, .int 0, .int 0, .ref (r 14), .ref (r 15), .ref (r 16), .ref (r 17), .ref (r 18), .ref (r 19), .ref (r 20), .ref (r 21), .ref (r 22), .ref (r 23), .ref (r 24), .ref (r 25), .ref (r 26), .ref (r 27), .ref (r 28), .ref (r 29), .int 0, .int 0, .int 0, .ref (r 30), .int 0, .int 0, .int 0, .int 0, .int 0, .int 0, .ref (r 31), .int 0, .int 0, .int 0, .ref (r 32), .ref (r 33)])), ((r 6), .inl ((j 4), 5, .inl (fun _ => 0))), ((r 7), .inl ((j 5), 40, .inl (fun _ => 0))), ((r 8), .inl ((j 6), 30, .inl (fun _ => 0))), ((r 9), .inl ((j 7), 70, .inl (fun _ => 0))), ((r 10), .inl ((j 8), 75, .inl (fun _ => 0))), ((r 11), .inl ((j 9), 20, .inl (fun _ => 0))), ((r 12), .inl ((j 10), 450, .inl (fun _ => 0))), ((r 13), .inl ((j 11), 3, .inl (fun _ => 0)))]) [0, 5, 6, 7, 8, 9, 10, 11, 12] (by decide) rfl
    have hFc := va_free (wc := [((r 0), .inr (12, [.int 0, .ref (r 1), .ref (r 2), .ref (r 3), .ref (r 4), .ref (r 5), .int 0, .int 0, .int 0, .int 0, .int 0, .long 0, .int 0, .int 0, .int 0, .int (-1), .ref (r 6), .ref (r 7), .ref (r 8), .ref (r 9), .ref (r 10), .ref (r 11), .ref (r 12), .ref (r 13), .int 0, .int 0, .int 0, .ref (r 14), .ref (r 15), .ref (r 16), .ref (r 17), .ref (r 18), .ref (r 19), .ref (r 20), .ref (r 21), .ref (r 22), .ref (r 23), .ref (r 24), .ref (r 25), .ref (r 26), .ref (r 27), .ref (r 28), .ref (r 29), .int 0, .int 0, .int 0, .ref (r 30), .int 0, .int 0, .int 0, .int 0, .int 0, .int 0, .ref (r 31), .int 0, .int 0, .int 0, .ref (r 32), .ref (r 33)])), ((r 6), .inl ((j 4), 5, .inl (fun _ => 0))), ((r 7), .inl ((j 5), 40, .inl (fun _ => 0))), ((r 8), .inl ((j 6), 30, .inl (fun _ => 0))), ((r 9), .inl ((j 7), 70, .inl (fun _ => 0))), ((r 10), .inl ((j 8), 75, .inl (fun _ => 0))), ((r 11), .inl ((j 9), 20, .inl (fun _ => 0))), ((r 12), .inl ((j 10), 450, .inl (fun _ => 0))), ((r 13), .inl ((j 11), 3, .inl (fun _ => 0)))]) hD hS hA [0, 5, 6, 7, 8, 9, 10, 11, 12] rfl
    refine va_calli (va_runV (As := [.int (xs 1)]) (rest := [.int (-2)]) ⟨hx, hb, hml, hown, hts⟩ (f_X12_image l dC dI H.size ((r 0)) ((r 1)) ((r 2)) ((r 3)) ((r 4)) ((r 5)) ((r 6)) ((r 7)) ((r 8)) ((r 9)) ((r 10)) ((r 11)) ((r 12)) ((r 13)) ((r 14)) ((r 15)) ((r 16)) ((r 17)) ((r 18)) ((r 19)) ((r 20)) ((r 21)) ((r 22)) ((r 23)) ((r 24)) ((r 25)) ((r 26)) ((r 27)) ((r 28)) ((r 29)) ((r 30)) ((r 31)) ((r 32)) ((r 33)) ((j 4)) ((j 5)) ((j 6)) ((j 7)) ((j 8)) ((j 9)) ((j 10)) ((j 11)) ((xs 1))) (cwV 1 hts (gk_V tw_1103 tw_1104 tw_1105 tw_505 wki_f_X12_image wkg_f_X12_image) rfl rfl rfl (by decide +kernel) ⟨Nat.le_of_ble_eq_true rfl, Nat.le_of_ble_eq_true rfl⟩) ⟨fun a U g mk q => by obtain ⟨q0, q1, qP, qK, qD⟩ := q; exact ⟨q0, q1, qP, va_K.moved (u := U) (U := U.calling g mk a) (Vm.Alike.refl U.vm) qK, qD⟩, va_recv hKc hPc (ci := 12) (q0 := 0) rfl rfl, fun U hU hW => ⟨rfl, by rw [hU], by rw [hU]; exact hPc, va_K.moved hW.alike hKc, hDc.weaken (fun _ _ _ _ => trivial)⟩⟩ rfl rfl hl.1 rfl (lv_room (Nat.le_of_ble_eq_true rfl)) dL_law_2083 ⟨Nat.le_of_ble_eq_true rfl, Nat.le_of_ble_eq_true rfl⟩) hS (fun q _ h => hFc q h) hFc (fun oz11 u t H1 locs ht hvm gz10 hB hz1 hk1 hS => ?_)
    generalize H1 = H at hS ⊢
    refine W.widen (k := 305) (n := 4995) (Nat.le_of_ble_eq_true rfl) (Nat.le_of_ble_eq_true rfl) ?_
    rcases gz10 with ⟨rfl, cz12⟩ | ⟨rfl, cz13, cz14⟩ | ⟨rfl, cz15, cz16⟩
    · skip
      refine lv_icmp_eq (tgt := 2293) hx hb dL_law_2086 (by decide) (fun cz17 => ?_) (fun cz17 => ?_)
      · skip
        exact law_end (dC := dC) (dI := dI) (Nat.le_of_eq hL6) C0 A hAe (q 0) (r 0) H locs hS ls hl
      · skip
        exact absurd cz17 (by decide)
    · skip
      have z0 : (xs 1).toInt < (0 : Int) := zi_lt.mp cz4
      have z1 : ¬ (xs 1).toInt < (0 : Int) := by intro h9; apply cz13; rw [zi_ltL]; simp only [Int32.toInt_toInt64]; exact h9
      omega
    · skip
      have z0 : (xs 1).toInt < (0 : Int) := zi_lt.mp cz4
      have z1 : ¬ (xs 1).toInt < (0 : Int) := by intro h9; apply cz15; rw [zi_ltL]; simp only [Int32.toInt_toInt64]; exact h9
      omega
  · skip
    refine lv_aload_n hx hb dL_law_2077 rfl (lv_at hl 2 rfl) ?_
    refine lv_aload_n hx hb dL_law_2078 rfl (lv_at hl 0 rfl) ?_
    refine lv_iload_n hx hb dL_law_2079 rfl (lv_at hl 3 rfl) ?_
    refine lv_iconst (v := 1) hx hb dL_law_2080 (by decide) ?_
    refine lv_iadd hx hb dL_law_2081 ?_
    refine lv_topi (fun xz18 exz18 => ?_)
    obtain rfl : xz18 = 1 := exz18.trans (by decide)
    refine va_sld hx hb hX hbl hbA hS (by rw [hL6]; unfold vp_in; decide) dL_law_2082 ?_
    refine W.eq (g2 := F0 m 2083 ls [.int (xs 1), .ref (r 0), .int 0]) rfl ?_
    have hPc := hP.sub (ws' := [((r 0), .inr (12, [.int 0, .ref (r 1), .ref (r 2), .ref (r 3), .ref (r 4), .ref (r 5), .int 0, .int 0, .int 0, .int 0, .int 0, .long 0, .int 0, .int 0, .int 0, .int (-1), .ref (r 6), .ref (r 7), .ref (r 8), .ref (r 9), .ref (r 10), .ref (r 11), .ref (r 12), .ref (r 13), .int 0, .int 0, .int 0, .ref (r 14), .ref (r 15), .ref (r 16), .ref (r 17), .ref (r 18), .ref (r 19), .ref (r 20), .ref (r 21), .ref (r 22), .ref (r 23), .ref (r 24), .ref (r 25), .ref (r 26), .ref (r 27), .ref (r 28), .ref (r 29), .int 0, .int 0, .int 0, .ref (r 30), .int 0, .int 0, .int 0, .int 0, .int 0, .int 0, .ref (r 31), .int 0, .int 0, .int 0, .ref (r 32), .ref (r 33)])), ((r 6), .inl ((j 4), 5, .inl (fun _ => 0))), ((r 7), .inl ((j 5), 40, .inl (fun _ => 0))), ((r 8), .inl ((j 6), 30, .inl (fun _ => 0))), ((r 9), .inl ((j 7), 70, .inl (fun _ => 0))), ((r 10), .inl ((j 8), 75, .inl (fun _ => 0))), ((r 11), .inl ((j 9), 20, .inl (fun _ => 0))), ((r 12), .inl ((j 10), 450, .inl (fun _ => 0))), ((r 13), .inl ((j 11), 3, .inl (fun _ => 0)))]) [0, 5, 6, 7, 8, 9, 10, 11, 12] rfl
    have hKc := hK.sub (tys' := [((j 4), .int), ((j 5), .int), ((j 6), .int), ((j 7), .int), ((j 8), .int), ((j 9), .int), ((j 10), .int), ((j 11), .boolean)]) [4, 5, 6, 7, 8, 9, 10, 11] rfl
    have hDc := hD.sub (ws' := [((r 0), .inr (12, [.int 0, .ref (r 1), .ref (r 2), .ref (r 3), .ref (r 4), .ref (r 5), .int 0, .int 0, .int 0, .int 0, .int 0, .long 0, .int 0, .int 0, .int 0, .int (-1), .ref (r 6), .ref (r 7), .ref (r 8), .ref (r 9), .ref (r 10), .ref (r 11), .ref (r 12), .ref (r 13), .int 0, .int 0, .int 0, .ref (r 14), .ref (r 15), .ref (r 16), .ref (r 17), .ref (r 18), .ref (r 19), .ref (r 20), .ref (r 21), .ref (r 22), .ref (r 23), .ref (r 24), .ref (r 25), .ref (r 26), .ref (r 27), .ref (r 28), .ref (r 29), .int 0, .int 0, .int 0, .ref (r 30), .int 0, .int 0, .int 0, .int 0, .int 0, .int 0, .ref (r 31), .int 0, .int 0, .int 0, .ref (r 32), .ref (r 33)])), ((r 6), .inl ((j 4), 5, .inl (fun _ => 0))), ((r 7), .inl ((j 5), 40, .inl (fun _ => 0))), ((r 8), .inl ((j 6), 30, .inl (fun _ => 0))), ((r 9), .inl ((j 7), 70, .inl (fun _ => 0))), ((r 10), .inl ((j 8), 75, .inl (fun _ => 0))), ((r 11), .inl ((j 9), 20, .inl (fun _ => 0))), ((r 12), .inl ((j 10), 450, .inl (fun _ => 0))), ((r 13), .inl ((j 11), 3, .inl (fun _ => 0)))]) [0, 5, 6, 7, 8, 9, 10, 11, 12] (by decide) rfl
    have hFc := va_free (wc := [((r 0), .inr (12, [.int 0, .ref (r 1), .ref (r 2), .ref (r 3), .ref (r 4), .ref (r 5), .int 0, .int 0, .int 0, .int 0, .int 0, .long 0, .int 0, .int 0, .int 0, .int (-1), .ref (r 6), .ref (r 7), .ref (r 8), .ref (r 9), .ref (r 10), .ref (r 11), .ref (r 12), .ref (r 13), .int 0, .int 0, .int 0, .ref (r 14), .ref (r 15), .ref (r 16), .ref (r 17), .ref (r 18), .ref (r 19), .ref (r 20), .ref (r 21), .ref (r 22), .ref (r 23), .ref (r 24), .ref (r 25), .ref (r 26), .ref (r 27), .ref (r 28), .ref (r 29), .int 0, .int 0, .int 0, .ref (r 30), .int 0, .int 0, .int 0, .int 0, .int 0, .int 0, .ref (r 31), .int 0, .int 0, .int 0, .ref (r 32), .ref (r 33)])), ((r 6), .inl ((j 4), 5, .inl (fun _ => 0))), ((r 7), .inl ((j 5), 40, .inl (fun _ => 0))), ((r 8), .inl ((j 6), 30, .inl (fun _ => 0))), ((r 9), .inl ((j 7), 70, .inl (fun _ => 0))), ((r 10), .inl ((j 8), 75, .inl (fun _ => 0))), ((r 11), .inl ((j 9), 20, .inl (fun _ => 0))), ((r 12), .inl ((j 10), 450, .inl (fun _ => 0))), ((r 13), .inl ((j 11), 3, .inl (fun _ => 0)))]) hD hS hA [0, 5, 6, 7, 8, 9, 10, 11, 12] rfl
    refine va_calli (va_runV (As := [.int (xs 1)]) (rest := [.int 0]) ⟨hx, hb, hml, hown, hts⟩ (f_X12_image l dC dI H.size ((r 0)) ((r 1)) ((r 2)) ((r 3)) ((r 4)) ((r 5)) ((r 6)) ((r 7)) ((r 8)) ((r 9)) ((r 10)) ((r 11)) ((r 12)) ((r 13)) ((r 14)) ((r 15)) ((r 16)) ((r 17)) ((r 18)) ((r 19)) ((r 20)) ((r 21)) ((r 22)) ((r 23)) ((r 24)) ((r 25)) ((r 26)) ((r 27)) ((r 28)) ((r 29)) ((r 30)) ((r 31)) ((r 32)) ((r 33)) ((j 4)) ((j 5)) ((j 6)) ((j 7)) ((j 8)) ((j 9)) ((j 10)) ((j 11)) ((xs 1))) (cwV 1 hts (gk_V tw_1103 tw_1104 tw_1105 tw_505 wki_f_X12_image wkg_f_X12_image) rfl rfl rfl (by decide +kernel) ⟨Nat.le_of_ble_eq_true rfl, Nat.le_of_ble_eq_true rfl⟩) ⟨fun a U g mk q => by obtain ⟨q0, q1, qP, qK, qD⟩ := q; exact ⟨q0, q1, qP, va_K.moved (u := U) (U := U.calling g mk a) (Vm.Alike.refl U.vm) qK, qD⟩, va_recv hKc hPc (ci := 12) (q0 := 0) rfl rfl, fun U hU hW => ⟨rfl, by rw [hU], by rw [hU]; exact hPc, va_K.moved hW.alike hKc, hDc.weaken (fun _ _ _ _ => trivial)⟩⟩ rfl rfl hl.1 rfl (lv_room (Nat.le_of_ble_eq_true rfl)) dL_law_2083 ⟨Nat.le_of_ble_eq_true rfl, Nat.le_of_ble_eq_true rfl⟩) hS (fun q _ h => hFc q h) hFc (fun oz20 u t H1 locs ht hvm gz19 hB hz1 hk1 hS => ?_)
    generalize H1 = H at hS ⊢
    refine W.widen (k := 305) (n := 4995) (Nat.le_of_ble_eq_true rfl) (Nat.le_of_ble_eq_true rfl) ?_
    rcases gz19 with ⟨rfl, cz21⟩ | ⟨rfl, cz22, cz23⟩ | ⟨rfl, cz24, cz25⟩
    · skip
      have z0 : ¬ (xs 1).toInt < (0 : Int) := fun h9 => cz5 (zi_lt.mpr h9)
      have z1 : (xs 1).toInt < (3 : Int) := zi_lt.mp cz6
      have z2 : (xs 1).toInt < (0 : Int) := by have h9 := zi_ltL.mp cz21; simp only [Int32.toInt_toInt64] at h9; exact h9
      omega
    · skip
      have z0 : ¬ (xs 1).toInt < (0 : Int) := fun h9 => cz5 (zi_lt.mpr h9)
      have z1 : (xs 1).toInt < (3 : Int) := zi_lt.mp cz6
      have z2 : ¬ (xs 1).toInt < (0 : Int) := by intro h9; apply cz22; rw [zi_ltL]; simp only [Int32.toInt_toInt64]; exact h9
      have z3 : (2 : Int) < (xs 1).toInt := by have h9 := zi_ltL.mp cz23; simp only [Int32.toInt_toInt64] at h9; exact h9
      omega
    · skip
      refine lv_icmp_eq (tgt := 2293) hx hb dL_law_2086 (by decide) (fun cz26 => ?_) (fun cz26 => ?_)
      · skip
        exact law_end (dC := dC) (dI := dI) (Nat.le_of_eq hL6) C0 A hAe (q 0) (r 0) H locs hS ls hl
      · skip
        exact absurd cz26 (by decide)
  · skip
    refine lv_aload_n hx hb dL_law_2077 rfl (lv_at hl 2 rfl) ?_
    refine lv_aload_n hx hb dL_law_2078 rfl (lv_at hl 0 rfl) ?_
    refine lv_iload_n hx hb dL_law_2079 rfl (lv_at hl 3 rfl) ?_
    refine lv_iconst (v := 1) hx hb dL_law_2080 (by decide) ?_
    refine lv_iadd hx hb dL_law_2081 ?_
    refine lv_topi (fun xz27 exz27 => ?_)
    obtain rfl : xz27 = 1 := exz27.trans (by decide)
    refine va_sld hx hb hX hbl hbA hS (by rw [hL6]; unfold vp_in; decide) dL_law_2082 ?_
    refine W.eq (g2 := F0 m 2083 ls [.int (xs 1), .ref (r 0), .int (-2)]) rfl ?_
    have hPc := hP.sub (ws' := [((r 0), .inr (12, [.int 0, .ref (r 1), .ref (r 2), .ref (r 3), .ref (r 4), .ref (r 5), .int 0, .int 0, .int 0, .int 0, .int 0, .long 0, .int 0, .int 0, .int 0, .int (-1), .ref (r 6), .ref (r 7), .ref (r 8), .ref (r 9), .ref (r 10), .ref (r 11), .ref (r 12), .ref (r 13), .int 0, .int 0, .int 0, .ref (r 14), .ref (r 15), .ref (r 16), .ref (r 17), .ref (r 18), .ref (r 19), .ref (r 20), .ref (r 21), .ref (r 22), .ref (r 23), .ref (r 24), .ref (r 25), .ref (r 26), .ref (r 27), .ref (r 28), .ref (r 29), .int 0, .int 0, .int 0, .ref (r 30), .int 0, .int 0, .int 0, .int 0, .int 0, .int 0, .ref (r 31), .int 0, .int 0, .int 0, .ref (r 32), .ref (r 33)])), ((r 6), .inl ((j 4), 5, .inl (fun _ => 0))), ((r 7), .inl ((j 5), 40, .inl (fun _ => 0))), ((r 8), .inl ((j 6), 30, .inl (fun _ => 0))), ((r 9), .inl ((j 7), 70, .inl (fun _ => 0))), ((r 10), .inl ((j 8), 75, .inl (fun _ => 0))), ((r 11), .inl ((j 9), 20, .inl (fun _ => 0))), ((r 12), .inl ((j 10), 450, .inl (fun _ => 0))), ((r 13), .inl ((j 11), 3, .inl (fun _ => 0)))]) [0, 5, 6, 7, 8, 9, 10, 11, 12] rfl
    have hKc := hK.sub (tys' := [((j 4), .int), ((j 5), .int), ((j 6), .int), ((j 7), .int), ((j 8), .int), ((j 9), .int), ((j 10), .int), ((j 11), .boolean)]) [4, 5, 6, 7, 8, 9, 10, 11] rfl
    have hDc := hD.sub (ws' := [((r 0), .inr (12, [.int 0, .ref (r 1), .ref (r 2), .ref (r 3), .ref (r 4), .ref (r 5), .int 0, .int 0, .int 0, .int 0, .int 0, .long 0, .int 0, .int 0, .int 0, .int (-1), .ref (r 6), .ref (r 7), .ref (r 8), .ref (r 9), .ref (r 10), .ref (r 11), .ref (r 12), .ref (r 13), .int 0, .int 0, .int 0, .ref (r 14), .ref (r 15), .ref (r 16), .ref (r 17), .ref (r 18), .ref (r 19), .ref (r 20), .ref (r 21), .ref (r 22), .ref (r 23), .ref (r 24), .ref (r 25), .ref (r 26), .ref (r 27), .ref (r 28), .ref (r 29), .int 0, .int 0, .int 0, .ref (r 30), .int 0, .int 0, .int 0, .int 0, .int 0, .int 0, .ref (r 31), .int 0, .int 0, .int 0, .ref (r 32), .ref (r 33)])), ((r 6), .inl ((j 4), 5, .inl (fun _ => 0))), ((r 7), .inl ((j 5), 40, .inl (fun _ => 0))), ((r 8), .inl ((j 6), 30, .inl (fun _ => 0))), ((r 9), .inl ((j 7), 70, .inl (fun _ => 0))), ((r 10), .inl ((j 8), 75, .inl (fun _ => 0))), ((r 11), .inl ((j 9), 20, .inl (fun _ => 0))), ((r 12), .inl ((j 10), 450, .inl (fun _ => 0))), ((r 13), .inl ((j 11), 3, .inl (fun _ => 0)))]) [0, 5, 6, 7, 8, 9, 10, 11, 12] (by decide) rfl
    have hFc := va_free (wc := [((r 0), .inr (12, [.int 0, .ref (r 1), .ref (r 2), .ref (r 3), .ref (r 4), .ref (r 5), .int 0, .int 0, .int 0, .int 0, .int 0, .long 0, .int 0, .int 0, .int 0, .int (-1), .ref (r 6), .ref (r 7), .ref (r 8), .ref (r 9), .ref (r 10), .ref (r 11), .ref (r 12), .ref (r 13), .int 0, .int 0, .int 0, .ref (r 14), .ref (r 15), .ref (r 16), .ref (r 17), .ref (r 18), .ref (r 19), .ref (r 20), .ref (r 21), .ref (r 22), .ref (r 23), .ref (r 24), .ref (r 25), .ref (r 26), .ref (r 27), .ref (r 28), .ref (r 29), .int 0, .int 0, .int 0, .ref (r 30), .int 0, .int 0, .int 0, .int 0, .int 0, .int 0, .ref (r 31), .int 0, .int 0, .int 0, .ref (r 32), .ref (r 33)])), ((r 6), .inl ((j 4), 5, .inl (fun _ => 0))), ((r 7), .inl ((j 5), 40, .inl (fun _ => 0))), ((r 8), .inl ((j 6), 30, .inl (fun _ => 0))), ((r 9), .inl ((j 7), 70, .inl (fun _ => 0))), ((r 10), .inl ((j 8), 75, .inl (fun _ => 0))), ((r 11), .inl ((j 9), 20, .inl (fun _ => 0))), ((r 12), .inl ((j 10), 450, .inl (fun _ => 0))), ((r 13), .inl ((j 11), 3, .inl (fun _ => 0)))]) hD hS hA [0, 5, 6, 7, 8, 9, 10, 11, 12] rfl
    refine va_calli (va_runV (As := [.int (xs 1)]) (rest := [.int (-2)]) ⟨hx, hb, hml, hown, hts⟩ (f_X12_image l dC dI H.size ((r 0)) ((r 1)) ((r 2)) ((r 3)) ((r 4)) ((r 5)) ((r 6)) ((r 7)) ((r 8)) ((r 9)) ((r 10)) ((r 11)) ((r 12)) ((r 13)) ((r 14)) ((r 15)) ((r 16)) ((r 17)) ((r 18)) ((r 19)) ((r 20)) ((r 21)) ((r 22)) ((r 23)) ((r 24)) ((r 25)) ((r 26)) ((r 27)) ((r 28)) ((r 29)) ((r 30)) ((r 31)) ((r 32)) ((r 33)) ((j 4)) ((j 5)) ((j 6)) ((j 7)) ((j 8)) ((j 9)) ((j 10)) ((j 11)) ((xs 1))) (cwV 1 hts (gk_V tw_1103 tw_1104 tw_1105 tw_505 wki_f_X12_image wkg_f_X12_image) rfl rfl rfl (by decide +kernel) ⟨Nat.le_of_ble_eq_true rfl, Nat.le_of_ble_eq_true rfl⟩) ⟨fun a U g mk q => by obtain ⟨q0, q1, qP, qK, qD⟩ := q; exact ⟨q0, q1, qP, va_K.moved (u := U) (U := U.calling g mk a) (Vm.Alike.refl U.vm) qK, qD⟩, va_recv hKc hPc (ci := 12) (q0 := 0) rfl rfl, fun U hU hW => ⟨rfl, by rw [hU], by rw [hU]; exact hPc, va_K.moved hW.alike hKc, hDc.weaken (fun _ _ _ _ => trivial)⟩⟩ rfl rfl hl.1 rfl (lv_room (Nat.le_of_ble_eq_true rfl)) dL_law_2083 ⟨Nat.le_of_ble_eq_true rfl, Nat.le_of_ble_eq_true rfl⟩) hS (fun q _ h => hFc q h) hFc (fun oz29 u t H1 locs ht hvm gz28 hB hz1 hk1 hS => ?_)
    generalize H1 = H at hS ⊢
    refine W.widen (k := 305) (n := 4995) (Nat.le_of_ble_eq_true rfl) (Nat.le_of_ble_eq_true rfl) ?_
    rcases gz28 with ⟨rfl, cz30⟩ | ⟨rfl, cz31, cz32⟩ | ⟨rfl, cz33, cz34⟩
    · skip
      have z0 : ¬ (xs 1).toInt < (0 : Int) := fun h9 => cz7 (zi_lt.mpr h9)
      have z1 : ¬ (xs 1).toInt < (3 : Int) := fun h9 => cz8 (zi_lt.mpr h9)
      have z2 : (xs 1).toInt < (0 : Int) := by have h9 := zi_ltL.mp cz30; simp only [Int32.toInt_toInt64] at h9; exact h9
      omega
    · skip
      refine lv_icmp_eq (tgt := 2293) hx hb dL_law_2086 (by decide) (fun cz35 => ?_) (fun cz35 => ?_)
      · skip
        exact law_end (dC := dC) (dI := dI) (Nat.le_of_eq hL6) C0 A hAe (q 0) (r 0) H locs hS ls hl
      · skip
        exact absurd cz35 (by decide)
    · skip
      have z0 : ¬ (xs 1).toInt < (0 : Int) := fun h9 => cz7 (zi_lt.mpr h9)
      have z1 : ¬ (xs 1).toInt < (3 : Int) := fun h9 => cz8 (zi_lt.mpr h9)
      have z2 : ¬ (xs 1).toInt < (0 : Int) := by intro h9; apply cz33; rw [zi_ltL]; simp only [Int32.toInt_toInt64]; exact h9
      have z3 : ¬ (2 : Int) < (xs 1).toInt := by intro h9; apply cz34; rw [zi_ltL]; simp only [Int32.toInt_toInt64]; exact h9
      omega
set_option maxHeartbeats 4000000 in
set_option maxRecDepth 100000 in
theorem law_case_68 {p : Program} {l : Launch} {e : Env} {s : State} {m : MethodId} {below : List Frame} {meth : Method} {c : Code} {dC : Nat → ClassId} {dI : Nat → Nat → Nat} {b L : Nat} {xs : Nat → Int32} (hL6 : L = 6) (C0 : lw_At p s m meth c b L xs) (A : Nat → Prop) (hAe : A = fun q => s.heap.size ≤ q) (q r : Nat → Nat) (k j : Nat → ClassId) (H : Heap) (locs : List Loc) (hK : va_K (dC, dI) vwCl (tX k ++ tM j) s) (hP : va_P (dC, dI) vwCl (wX q k ++ wM r j) H) (hD : va_D A (wX q k ++ wM r j)) (hS : va_S A s.heap H locs) (ls : Array Slot) (hl : lv_has ls 4 [(0, .ref b), (1, .ref (q 0)), (2, .ref (r 0)), (3, .int 0)]) : W p l e room_1 s m #[Value.ref b] below meth c H locs 305 4995 (lw_Z below #[Value.ref b] s) (F0 m 2091 ls []) := by
  obtain ⟨hx, hb, hr, hml, hown, hts, hX, hbl, hlocks, hgv⟩ := id C0
  have hown : s.vm.findClass RL = some m.cls := hown
  have hA : ∀ q : Nat, s.heap.size ≤ q → A q := by rw [hAe]; exact fun _ h => h
  have hbA : ¬ A b := by rw [hAe]; exact Nat.not_le.mpr hbl
  refine lv_aload_n hx hb dL_law_2091 rfl (lv_at hl 1 rfl) ?_
  refine lv_aload_n hx hb dL_law_2092 rfl (lv_at hl 0 rfl) ?_
  refine lv_iload_n hx hb dL_law_2093 rfl (lv_at hl 3 rfl) ?_
  refine lv_iconst (v := 1) hx hb dL_law_2094 (by decide) ?_
  refine lv_iadd hx hb dL_law_2095 ?_
  refine lv_topi (fun xz1 exz1 => ?_)
  obtain rfl : xz1 = 1 := exz1.trans (by decide)
  refine va_sld hx hb hX hbl hbA hS (by rw [hL6]; unfold vp_in; decide) dL_law_2096 ?_
  refine W.eq (g2 := F0 m 2097 ls [.int (xs 1), .ref (q 0)]) rfl ?_
  have hPc := hP.sub (ws' := [((q 0), .inr (11, [.ref (q 1), .ref (q 2), .ref (q 3), .ref (q 4), .ref (q 5), .ref (q 6), .ref (q 7), .ref (q 8), .ref (q 9), .ref (q 10), .ref (q 11), .ref (q 12), .ref (q 13), .ref (q 14), .ref (q 15)])), ((q 15), .inl ((k 25), 3, .inr (.inr (.inr (.inr (va_up (va_up (va_up (fun _ => none) 0 (some (q 51))) 1 (some (q 52))) 2 (some (q 53)))))))), ((q 51), .inr (1, [.ref (q 54), .ref (q 55), .int 0])), ((q 52), .inr (1, [.ref (q 66), .ref (q 67), .int 0])), ((q 53), .inr (1, [.ref (q 78), .ref (q 79), .int 0]))]) [0, 38, 39, 52, 65] rfl
  have hKc := hK.sub (tys' := [((k 25), .object RX1)]) [25] rfl
  refine vp_callSi (va_Run.run (va_runV (As := [.int (xs 1)]) (rest := []) ⟨hx, hb, hml, hown, hts⟩ (f_X11_back l dC dI ((q 0)) ((q 1)) ((q 2)) ((q 3)) ((q 4)) ((q 5)) ((q 6)) ((q 7)) ((q 8)) ((q 9)) ((q 10)) ((q 11)) ((q 12)) ((q 13)) ((q 14)) ((q 15)) ((q 51)) ((q 52)) ((q 53)) ((q 54)) ((q 66)) ((q 78)) ((q 55)) ((q 67)) ((q 79)) ((k 25)) ((xs 1))) (cwV 1 hts (gk_V tw_1106 tw_1107 tw_1108 tw_157 wki_f_X11_back wkg_f_X11_back) rfl rfl rfl (by decide +kernel) ⟨Nat.le_of_ble_eq_true rfl, Nat.le_of_ble_eq_true rfl⟩) ⟨fun a U g mk q => by obtain ⟨q0, qP, qK⟩ := q; exact ⟨q0, qP, va_K.moved (u := U) (U := U.calling g mk a) (Vm.Alike.refl U.vm) qK⟩, va_recv hKc hPc (ci := 11) (q0 := 0) rfl rfl, fun U hU hW => ⟨rfl, by rw [hU]; exact hPc, va_K.moved hW.alike hKc⟩⟩ rfl rfl hl.1 rfl (lv_room (Nat.le_of_ble_eq_true rfl)) dL_law_2097 ⟨Nat.le_of_ble_eq_true rfl, Nat.le_of_ble_eq_true rfl⟩)) (fun oz3 gz2 => ?_)
  rcases gz2 with ⟨rfl, cz4⟩ | ⟨rfl, cz5, cz6⟩ | ⟨rfl, cz7, cz8⟩
  · skip
    refine lv_aload_n hx hb dL_law_2100 rfl (lv_at hl 2 rfl) ?_
    refine lv_aload_n hx hb dL_law_2101 rfl (lv_at hl 0 rfl) ?_
    refine lv_iload_n hx hb dL_law_2102 rfl (lv_at hl 3 rfl) ?_
    refine lv_iconst (v := 1) hx hb dL_law_2103 (by decide) ?_
    refine lv_iadd hx hb dL_law_2104 ?_
    refine lv_topi (fun xz9 exz9 => ?_)
    obtain rfl : xz9 = 1 := exz9.trans (by decide)
    refine va_sld hx hb hX hbl hbA hS (by rw [hL6]; unfold vp_in; decide) dL_law_2105 ?_
    refine W.eq (g2 := F0 m 2106 ls [.int (xs 1), .ref (r 0), .int (-2)]) rfl ?_
    have hPc := hP.sub (ws' := [((r 0), .inr (12, [.int 0, .ref (r 1), .ref (r 2), .ref (r 3), .ref (r 4), .ref (r 5), .int 0, .int 0, .int 0, .int 0, .int 0, .long 0, .int 0, .int 0, .int 0, .int (-1), .ref (r 6), .ref (r 7), .ref (r 8), .ref (r 9), .ref (r 10), .ref (r 11), .ref (r 12), .ref (r 13), .int 0, .int 0, .int 0, .ref (r 14), .ref (r 15), .ref (r 16), .ref (r 17), .ref (r 18), .ref (r 19), .ref (r 20), .ref (r 21), .ref (r 22), .ref (r 23), .ref (r 24), .ref (r 25), .ref (r 26), .ref (r 27), .ref (r 28), .ref (r 29), .int 0, .int 0, .int 0, .ref (r 30), .int 0, .int 0, .int 0, .int 0, .int 0, .int 0, .ref (r 31), .int 0, .int 0, .int 0, .ref (r 32), .ref (r 33)])), ((r 13), .inl ((j 11), 3, .inl (fun _ => 0)))]) [78, 90] rfl
    have hKc := hK.sub (tys' := [((j 11), .boolean)]) [67] rfl
    have hDc := hD.sub (ws' := [((r 0), .inr (12, [.int 0, .ref (r 1), .ref (r 2), .ref (r 3), .ref (r 4), .ref (r 5), .int 0, .int 0, .int 0, .int 0, .int 0, .long 0, .int 0, .int 0, .int 0, .int (-1), .ref (r 6), .ref (r 7), .ref (r 8), .ref (r 9), .ref (r 10), .ref (r 11), .ref (r 12), .ref (r 13), .int 0, .int 0, .int 0, .ref (r 14), .ref (r 15), .ref (r 16), .ref (r 17), .ref (r 18), .ref (r 19), .ref (r 20), .ref (r 21), .ref (r 22), .ref (r 23), .ref (r 24), .ref (r 25), .ref (r 26), .ref (r 27), .ref (r 28), .ref (r 29), .int 0, .int 0, .int 0, .ref (r 30), .int 0, .int 0, .int 0, .int 0, .int 0, .int 0, .ref (r 31), .int 0, .int 0, .int 0, .ref (r 32), .ref (r 33)])), ((r 13), .inl ((j 11), 3, .inl (fun _ => 0)))]) [78, 90] (by decide) rfl
    have hFc := va_free (wc := [((r 0), .inr (12, [.int 0, .ref (r 1), .ref (r 2), .ref (r 3), .ref (r 4), .ref (r 5), .int 0, .int 0, .int 0, .int 0, .int 0, .long 0, .int 0, .int 0, .int 0, .int (-1), .ref (r 6), .ref (r 7), .ref (r 8), .ref (r 9), .ref (r 10), .ref (r 11), .ref (r 12), .ref (r 13), .int 0, .int 0, .int 0, .ref (r 14), .ref (r 15), .ref (r 16), .ref (r 17), .ref (r 18), .ref (r 19), .ref (r 20), .ref (r 21), .ref (r 22), .ref (r 23), .ref (r 24), .ref (r 25), .ref (r 26), .ref (r 27), .ref (r 28), .ref (r 29), .int 0, .int 0, .int 0, .ref (r 30), .int 0, .int 0, .int 0, .int 0, .int 0, .int 0, .ref (r 31), .int 0, .int 0, .int 0, .ref (r 32), .ref (r 33)])), ((r 13), .inl ((j 11), 3, .inl (fun _ => 0)))]) hD hS hA [78, 90] rfl
    refine va_calli (va_runV (As := [.int (xs 1)]) (rest := [.int (-2)]) ⟨hx, hb, hml, hown, hts⟩ (f_X12_back l dC dI H.size ((r 0)) ((r 1)) ((r 2)) ((r 3)) ((r 4)) ((r 5)) ((r 6)) ((r 7)) ((r 8)) ((r 9)) ((r 10)) ((r 11)) ((r 12)) ((r 13)) ((r 14)) ((r 15)) ((r 16)) ((r 17)) ((r 18)) ((r 19)) ((r 20)) ((r 21)) ((r 22)) ((r 23)) ((r 24)) ((r 25)) ((r 26)) ((r 27)) ((r 28)) ((r 29)) ((r 30)) ((r 31)) ((r 32)) ((r 33)) ((j 11)) ((xs 1))) (cwV 1 hts (gk_V tw_1109 tw_1110 tw_1111 tw_505 wki_f_X12_back wkg_f_X12_back) rfl rfl rfl (by decide +kernel) ⟨Nat.le_of_ble_eq_true rfl, Nat.le_of_ble_eq_true rfl⟩) ⟨fun a U g mk q => by obtain ⟨q0, q1, qP, qK, qD⟩ := q; exact ⟨q0, q1, qP, va_K.moved (u := U) (U := U.calling g mk a) (Vm.Alike.refl U.vm) qK, qD⟩, va_recv hKc hPc (ci := 12) (q0 := 0) rfl rfl, fun U hU hW => ⟨rfl, by rw [hU], by rw [hU]; exact hPc, va_K.moved hW.alike hKc, hDc.weaken (fun _ _ _ _ => trivial)⟩⟩ rfl rfl hl.1 rfl (lv_room (Nat.le_of_ble_eq_true rfl)) dL_law_2106 ⟨Nat.le_of_ble_eq_true rfl, Nat.le_of_ble_eq_true rfl⟩) hS (fun q _ h => hFc q h) hFc (fun oz11 u t H1 locs ht hvm gz10 hB hz1 hk1 hS => ?_)
    generalize H1 = H at hS ⊢
    refine W.widen (k := 305) (n := 4995) (Nat.le_of_ble_eq_true rfl) (Nat.le_of_ble_eq_true rfl) ?_
    rcases gz10 with ⟨rfl, cz12⟩ | ⟨rfl, cz13, cz14⟩ | ⟨rfl, cz15, cz16⟩
    · skip
      refine lv_icmp_eq (tgt := 2293) hx hb dL_law_2109 (by decide) (fun cz17 => ?_) (fun cz17 => ?_)
      · skip
        exact law_end (dC := dC) (dI := dI) (Nat.le_of_eq hL6) C0 A hAe (q 0) (r 0) H locs hS ls hl
      · skip
        exact absurd cz17 (by decide)
    · skip
      have z0 : (xs 1).toInt < (0 : Int) := zi_lt.mp cz4
      have z1 : ¬ (xs 1).toInt < (0 : Int) := by intro h9; apply cz13; rw [zi_ltL]; simp only [Int32.toInt_toInt64]; exact h9
      omega
    · skip
      have z0 : (xs 1).toInt < (0 : Int) := zi_lt.mp cz4
      have z1 : ¬ (xs 1).toInt < (0 : Int) := by intro h9; apply cz15; rw [zi_ltL]; simp only [Int32.toInt_toInt64]; exact h9
      omega
  · skip
    refine lv_aload_n hx hb dL_law_2100 rfl (lv_at hl 2 rfl) ?_
    refine lv_aload_n hx hb dL_law_2101 rfl (lv_at hl 0 rfl) ?_
    refine lv_iload_n hx hb dL_law_2102 rfl (lv_at hl 3 rfl) ?_
    refine lv_iconst (v := 1) hx hb dL_law_2103 (by decide) ?_
    refine lv_iadd hx hb dL_law_2104 ?_
    refine lv_topi (fun xz18 exz18 => ?_)
    obtain rfl : xz18 = 1 := exz18.trans (by decide)
    refine va_sld hx hb hX hbl hbA hS (by rw [hL6]; unfold vp_in; decide) dL_law_2105 ?_
    refine W.eq (g2 := F0 m 2106 ls [.int (xs 1), .ref (r 0), .int (-6)]) rfl ?_
    have hPc := hP.sub (ws' := [((r 0), .inr (12, [.int 0, .ref (r 1), .ref (r 2), .ref (r 3), .ref (r 4), .ref (r 5), .int 0, .int 0, .int 0, .int 0, .int 0, .long 0, .int 0, .int 0, .int 0, .int (-1), .ref (r 6), .ref (r 7), .ref (r 8), .ref (r 9), .ref (r 10), .ref (r 11), .ref (r 12), .ref (r 13), .int 0, .int 0, .int 0, .ref (r 14), .ref (r 15), .ref (r 16), .ref (r 17), .ref (r 18), .ref (r 19), .ref (r 20), .ref (r 21), .ref (r 22), .ref (r 23), .ref (r 24), .ref (r 25), .ref (r 26), .ref (r 27), .ref (r 28), .ref (r 29), .int 0, .int 0, .int 0, .ref (r 30), .int 0, .int 0, .int 0, .int 0, .int 0, .int 0, .ref (r 31), .int 0, .int 0, .int 0, .ref (r 32), .ref (r 33)])), ((r 13), .inl ((j 11), 3, .inl (fun _ => 0)))]) [78, 90] rfl
    have hKc := hK.sub (tys' := [((j 11), .boolean)]) [67] rfl
    have hDc := hD.sub (ws' := [((r 0), .inr (12, [.int 0, .ref (r 1), .ref (r 2), .ref (r 3), .ref (r 4), .ref (r 5), .int 0, .int 0, .int 0, .int 0, .int 0, .long 0, .int 0, .int 0, .int 0, .int (-1), .ref (r 6), .ref (r 7), .ref (r 8), .ref (r 9), .ref (r 10), .ref (r 11), .ref (r 12), .ref (r 13), .int 0, .int 0, .int 0, .ref (r 14), .ref (r 15), .ref (r 16), .ref (r 17), .ref (r 18), .ref (r 19), .ref (r 20), .ref (r 21), .ref (r 22), .ref (r 23), .ref (r 24), .ref (r 25), .ref (r 26), .ref (r 27), .ref (r 28), .ref (r 29), .int 0, .int 0, .int 0, .ref (r 30), .int 0, .int 0, .int 0, .int 0, .int 0, .int 0, .ref (r 31), .int 0, .int 0, .int 0, .ref (r 32), .ref (r 33)])), ((r 13), .inl ((j 11), 3, .inl (fun _ => 0)))]) [78, 90] (by decide) rfl
    have hFc := va_free (wc := [((r 0), .inr (12, [.int 0, .ref (r 1), .ref (r 2), .ref (r 3), .ref (r 4), .ref (r 5), .int 0, .int 0, .int 0, .int 0, .int 0, .long 0, .int 0, .int 0, .int 0, .int (-1), .ref (r 6), .ref (r 7), .ref (r 8), .ref (r 9), .ref (r 10), .ref (r 11), .ref (r 12), .ref (r 13), .int 0, .int 0, .int 0, .ref (r 14), .ref (r 15), .ref (r 16), .ref (r 17), .ref (r 18), .ref (r 19), .ref (r 20), .ref (r 21), .ref (r 22), .ref (r 23), .ref (r 24), .ref (r 25), .ref (r 26), .ref (r 27), .ref (r 28), .ref (r 29), .int 0, .int 0, .int 0, .ref (r 30), .int 0, .int 0, .int 0, .int 0, .int 0, .int 0, .ref (r 31), .int 0, .int 0, .int 0, .ref (r 32), .ref (r 33)])), ((r 13), .inl ((j 11), 3, .inl (fun _ => 0)))]) hD hS hA [78, 90] rfl
    refine va_calli (va_runV (As := [.int (xs 1)]) (rest := [.int (-6)]) ⟨hx, hb, hml, hown, hts⟩ (f_X12_back l dC dI H.size ((r 0)) ((r 1)) ((r 2)) ((r 3)) ((r 4)) ((r 5)) ((r 6)) ((r 7)) ((r 8)) ((r 9)) ((r 10)) ((r 11)) ((r 12)) ((r 13)) ((r 14)) ((r 15)) ((r 16)) ((r 17)) ((r 18)) ((r 19)) ((r 20)) ((r 21)) ((r 22)) ((r 23)) ((r 24)) ((r 25)) ((r 26)) ((r 27)) ((r 28)) ((r 29)) ((r 30)) ((r 31)) ((r 32)) ((r 33)) ((j 11)) ((xs 1))) (cwV 1 hts (gk_V tw_1109 tw_1110 tw_1111 tw_505 wki_f_X12_back wkg_f_X12_back) rfl rfl rfl (by decide +kernel) ⟨Nat.le_of_ble_eq_true rfl, Nat.le_of_ble_eq_true rfl⟩) ⟨fun a U g mk q => by obtain ⟨q0, q1, qP, qK, qD⟩ := q; exact ⟨q0, q1, qP, va_K.moved (u := U) (U := U.calling g mk a) (Vm.Alike.refl U.vm) qK, qD⟩, va_recv hKc hPc (ci := 12) (q0 := 0) rfl rfl, fun U hU hW => ⟨rfl, by rw [hU], by rw [hU]; exact hPc, va_K.moved hW.alike hKc, hDc.weaken (fun _ _ _ _ => trivial)⟩⟩ rfl rfl hl.1 rfl (lv_room (Nat.le_of_ble_eq_true rfl)) dL_law_2106 ⟨Nat.le_of_ble_eq_true rfl, Nat.le_of_ble_eq_true rfl⟩) hS (fun q _ h => hFc q h) hFc (fun oz20 u t H1 locs ht hvm gz19 hB hz1 hk1 hS => ?_)
    generalize H1 = H at hS ⊢
    refine W.widen (k := 305) (n := 4995) (Nat.le_of_ble_eq_true rfl) (Nat.le_of_ble_eq_true rfl) ?_
    rcases gz19 with ⟨rfl, cz21⟩ | ⟨rfl, cz22, cz23⟩ | ⟨rfl, cz24, cz25⟩
    · skip
      have z0 : ¬ (xs 1).toInt < (0 : Int) := fun h9 => cz5 (zi_lt.mpr h9)
      have z1 : (xs 1).toInt < (3 : Int) := zi_lt.mp cz6
      have z2 : (xs 1).toInt < (0 : Int) := by have h9 := zi_ltL.mp cz21; simp only [Int32.toInt_toInt64] at h9; exact h9
      omega
    · skip
      have z0 : ¬ (xs 1).toInt < (0 : Int) := fun h9 => cz5 (zi_lt.mpr h9)
      have z1 : (xs 1).toInt < (3 : Int) := zi_lt.mp cz6
      have z2 : ¬ (xs 1).toInt < (0 : Int) := by intro h9; apply cz22; rw [zi_ltL]; simp only [Int32.toInt_toInt64]; exact h9
      have z3 : (2 : Int) < (xs 1).toInt := by have h9 := zi_ltL.mp cz23; simp only [Int32.toInt_toInt64] at h9; exact h9
      omega
    · skip
      refine lv_icmp_eq (tgt := 2293) hx hb dL_law_2109 (by decide) (fun cz26 => ?_) (fun cz26 => ?_)
      · skip
        exact law_end (dC := dC) (dI := dI) (Nat.le_of_eq hL6) C0 A hAe (q 0) (r 0) H locs hS ls hl
      · skip
        exact absurd cz26 (by decide)
  · skip
    refine lv_aload_n hx hb dL_law_2100 rfl (lv_at hl 2 rfl) ?_
    refine lv_aload_n hx hb dL_law_2101 rfl (lv_at hl 0 rfl) ?_
    refine lv_iload_n hx hb dL_law_2102 rfl (lv_at hl 3 rfl) ?_
    refine lv_iconst (v := 1) hx hb dL_law_2103 (by decide) ?_
    refine lv_iadd hx hb dL_law_2104 ?_
    refine lv_topi (fun xz27 exz27 => ?_)
    obtain rfl : xz27 = 1 := exz27.trans (by decide)
    refine va_sld hx hb hX hbl hbA hS (by rw [hL6]; unfold vp_in; decide) dL_law_2105 ?_
    refine W.eq (g2 := F0 m 2106 ls [.int (xs 1), .ref (r 0), .int (-2)]) rfl ?_
    have hPc := hP.sub (ws' := [((r 0), .inr (12, [.int 0, .ref (r 1), .ref (r 2), .ref (r 3), .ref (r 4), .ref (r 5), .int 0, .int 0, .int 0, .int 0, .int 0, .long 0, .int 0, .int 0, .int 0, .int (-1), .ref (r 6), .ref (r 7), .ref (r 8), .ref (r 9), .ref (r 10), .ref (r 11), .ref (r 12), .ref (r 13), .int 0, .int 0, .int 0, .ref (r 14), .ref (r 15), .ref (r 16), .ref (r 17), .ref (r 18), .ref (r 19), .ref (r 20), .ref (r 21), .ref (r 22), .ref (r 23), .ref (r 24), .ref (r 25), .ref (r 26), .ref (r 27), .ref (r 28), .ref (r 29), .int 0, .int 0, .int 0, .ref (r 30), .int 0, .int 0, .int 0, .int 0, .int 0, .int 0, .ref (r 31), .int 0, .int 0, .int 0, .ref (r 32), .ref (r 33)])), ((r 13), .inl ((j 11), 3, .inl (fun _ => 0)))]) [78, 90] rfl
    have hKc := hK.sub (tys' := [((j 11), .boolean)]) [67] rfl
    have hDc := hD.sub (ws' := [((r 0), .inr (12, [.int 0, .ref (r 1), .ref (r 2), .ref (r 3), .ref (r 4), .ref (r 5), .int 0, .int 0, .int 0, .int 0, .int 0, .long 0, .int 0, .int 0, .int 0, .int (-1), .ref (r 6), .ref (r 7), .ref (r 8), .ref (r 9), .ref (r 10), .ref (r 11), .ref (r 12), .ref (r 13), .int 0, .int 0, .int 0, .ref (r 14), .ref (r 15), .ref (r 16), .ref (r 17), .ref (r 18), .ref (r 19), .ref (r 20), .ref (r 21), .ref (r 22), .ref (r 23), .ref (r 24), .ref (r 25), .ref (r 26), .ref (r 27), .ref (r 28), .ref (r 29), .int 0, .int 0, .int 0, .ref (r 30), .int 0, .int 0, .int 0, .int 0, .int 0, .int 0, .ref (r 31), .int 0, .int 0, .int 0, .ref (r 32), .ref (r 33)])), ((r 13), .inl ((j 11), 3, .inl (fun _ => 0)))]) [78, 90] (by decide) rfl
    have hFc := va_free (wc := [((r 0), .inr (12, [.int 0, .ref (r 1), .ref (r 2), .ref (r 3), .ref (r 4), .ref (r 5), .int 0, .int 0, .int 0, .int 0, .int 0, .long 0, .int 0, .int 0, .int 0, .int (-1), .ref (r 6), .ref (r 7), .ref (r 8), .ref (r 9), .ref (r 10), .ref (r 11), .ref (r 12), .ref (r 13), .int 0, .int 0, .int 0, .ref (r 14), .ref (r 15), .ref (r 16), .ref (r 17), .ref (r 18), .ref (r 19), .ref (r 20), .ref (r 21), .ref (r 22), .ref (r 23), .ref (r 24), .ref (r 25), .ref (r 26), .ref (r 27), .ref (r 28), .ref (r 29), .int 0, .int 0, .int 0, .ref (r 30), .int 0, .int 0, .int 0, .int 0, .int 0, .int 0, .ref (r 31), .int 0, .int 0, .int 0, .ref (r 32), .ref (r 33)])), ((r 13), .inl ((j 11), 3, .inl (fun _ => 0)))]) hD hS hA [78, 90] rfl
    refine va_calli (va_runV (As := [.int (xs 1)]) (rest := [.int (-2)]) ⟨hx, hb, hml, hown, hts⟩ (f_X12_back l dC dI H.size ((r 0)) ((r 1)) ((r 2)) ((r 3)) ((r 4)) ((r 5)) ((r 6)) ((r 7)) ((r 8)) ((r 9)) ((r 10)) ((r 11)) ((r 12)) ((r 13)) ((r 14)) ((r 15)) ((r 16)) ((r 17)) ((r 18)) ((r 19)) ((r 20)) ((r 21)) ((r 22)) ((r 23)) ((r 24)) ((r 25)) ((r 26)) ((r 27)) ((r 28)) ((r 29)) ((r 30)) ((r 31)) ((r 32)) ((r 33)) ((j 11)) ((xs 1))) (cwV 1 hts (gk_V tw_1109 tw_1110 tw_1111 tw_505 wki_f_X12_back wkg_f_X12_back) rfl rfl rfl (by decide +kernel) ⟨Nat.le_of_ble_eq_true rfl, Nat.le_of_ble_eq_true rfl⟩) ⟨fun a U g mk q => by obtain ⟨q0, q1, qP, qK, qD⟩ := q; exact ⟨q0, q1, qP, va_K.moved (u := U) (U := U.calling g mk a) (Vm.Alike.refl U.vm) qK, qD⟩, va_recv hKc hPc (ci := 12) (q0 := 0) rfl rfl, fun U hU hW => ⟨rfl, by rw [hU], by rw [hU]; exact hPc, va_K.moved hW.alike hKc, hDc.weaken (fun _ _ _ _ => trivial)⟩⟩ rfl rfl hl.1 rfl (lv_room (Nat.le_of_ble_eq_true rfl)) dL_law_2106 ⟨Nat.le_of_ble_eq_true rfl, Nat.le_of_ble_eq_true rfl⟩) hS (fun q _ h => hFc q h) hFc (fun oz29 u t H1 locs ht hvm gz28 hB hz1 hk1 hS => ?_)
    generalize H1 = H at hS ⊢
    refine W.widen (k := 305) (n := 4995) (Nat.le_of_ble_eq_true rfl) (Nat.le_of_ble_eq_true rfl) ?_
    rcases gz28 with ⟨rfl, cz30⟩ | ⟨rfl, cz31, cz32⟩ | ⟨rfl, cz33, cz34⟩
    · skip
      have z0 : ¬ (xs 1).toInt < (0 : Int) := fun h9 => cz7 (zi_lt.mpr h9)
      have z1 : ¬ (xs 1).toInt < (3 : Int) := fun h9 => cz8 (zi_lt.mpr h9)
      have z2 : (xs 1).toInt < (0 : Int) := by have h9 := zi_ltL.mp cz30; simp only [Int32.toInt_toInt64] at h9; exact h9
      omega
    · skip
      refine lv_icmp_eq (tgt := 2293) hx hb dL_law_2109 (by decide) (fun cz35 => ?_) (fun cz35 => ?_)
      · skip
        exact law_end (dC := dC) (dI := dI) (Nat.le_of_eq hL6) C0 A hAe (q 0) (r 0) H locs hS ls hl
      · skip
        exact absurd cz35 (by decide)
    · skip
      have z0 : ¬ (xs 1).toInt < (0 : Int) := fun h9 => cz7 (zi_lt.mpr h9)
      have z1 : ¬ (xs 1).toInt < (3 : Int) := fun h9 => cz8 (zi_lt.mpr h9)
      have z2 : ¬ (xs 1).toInt < (0 : Int) := by intro h9; apply cz33; rw [zi_ltL]; simp only [Int32.toInt_toInt64]; exact h9
      have z3 : ¬ (2 : Int) < (xs 1).toInt := by intro h9; apply cz34; rw [zi_ltL]; simp only [Int32.toInt_toInt64]; exact h9
      omega
set_option maxHeartbeats 4000000 in
set_option maxRecDepth 100000 in
theorem law_case_69 {p : Program} {l : Launch} {e : Env} {s : State} {m : MethodId} {below : List Frame} {meth : Method} {c : Code} {dC : Nat → ClassId} {dI : Nat → Nat → Nat} {b L : Nat} {xs : Nat → Int32} (hL6 : L = 6) (C0 : lw_At p s m meth c b L xs) (A : Nat → Prop) (hAe : A = fun q => s.heap.size ≤ q) (q r : Nat → Nat) (k j : Nat → ClassId) (H : Heap) (locs : List Loc) (hK : va_K (dC, dI) vwCl (tX k ++ tM j) s) (hP : va_P (dC, dI) vwCl (wX q k ++ wM r j) H) (hD : va_D A (wX q k ++ wM r j)) (hS : va_S A s.heap H locs) (ls : Array Slot) (hl : lv_has ls 4 [(0, .ref b), (1, .ref (q 0)), (2, .ref (r 0)), (3, .int 0)]) : W p l e room_1 s m #[Value.ref b] below meth c H locs 305 4995 (lw_Z below #[Value.ref b] s) (F0 m 2114 ls []) := by
  obtain ⟨hx, hb, hr, hml, hown, hts, hX, hbl, hlocks, hgv⟩ := id C0
  have hown : s.vm.findClass RL = some m.cls := hown
  have hA : ∀ q : Nat, s.heap.size ≤ q → A q := by rw [hAe]; exact fun _ h => h
  have hbA : ¬ A b := by rw [hAe]; exact Nat.not_le.mpr hbl
  refine lv_aload_n hx hb dL_law_2114 rfl (lv_at hl 1 rfl) ?_
  refine lv_aload_n hx hb dL_law_2115 rfl (lv_at hl 0 rfl) ?_
  refine lv_iload_n hx hb dL_law_2116 rfl (lv_at hl 3 rfl) ?_
  refine lv_iconst (v := 1) hx hb dL_law_2117 (by decide) ?_
  refine lv_iadd hx hb dL_law_2118 ?_
  refine lv_topi (fun xz1 exz1 => ?_)
  obtain rfl : xz1 = 1 := exz1.trans (by decide)
  refine va_sld hx hb hX hbl hbA hS (by rw [hL6]; unfold vp_in; decide) dL_law_2119 ?_
  refine W.eq (g2 := F0 m 2120 ls [.int (xs 1), .ref (q 0)]) rfl ?_
  refine lv_aload_n hx hb dL_law_2120 rfl (lv_at hl 0 rfl) ?_
  refine lv_iload_n hx hb dL_law_2121 rfl (lv_at hl 3 rfl) ?_
  refine lv_iconst (v := 2) hx hb dL_law_2122 (by decide) ?_
  refine lv_iadd hx hb dL_law_2123 ?_
  refine lv_topi (fun xz2 exz2 => ?_)
  obtain rfl : xz2 = 2 := exz2.trans (by decide)
  refine va_sld hx hb hX hbl hbA hS (by rw [hL6]; unfold vp_in; decide) dL_law_2124 ?_
  refine W.eq (g2 := F0 m 2125 ls [.int (xs 2), .int (xs 1), .ref (q 0)]) rfl ?_
  refine lv_aload_n hx hb dL_law_2125 rfl (lv_at hl 0 rfl) ?_
  refine lv_iload_n hx hb dL_law_2126 rfl (lv_at hl 3 rfl) ?_
  refine lv_iconst (v := 3) hx hb dL_law_2127 (by decide) ?_
  refine lv_iadd hx hb dL_law_2128 ?_
  refine lv_topi (fun xz3 exz3 => ?_)
  obtain rfl : xz3 = 3 := exz3.trans (by decide)
  refine va_sld hx hb hX hbl hbA hS (by rw [hL6]; unfold vp_in; decide) dL_law_2129 ?_
  refine W.eq (g2 := F0 m 2130 ls [.int (xs 3), .int (xs 2), .int (xs 1), .ref (q 0)]) rfl ?_
  have hPc := hP.sub (ws' := [((q 0), .inr (11, [.ref (q 1), .ref (q 2), .ref (q 3), .ref (q 4), .ref (q 5), .ref (q 6), .ref (q 7), .ref (q 8), .ref (q 9), .ref (q 10), .ref (q 11), .ref (q 12), .ref (q 13), .ref (q 14), .ref (q 15)])), ((q 14), .inl ((k 20), 4, .inr (.inr (.inr (.inr (va_up (va_up (va_up (va_up (fun _ => none) 0 (some (q 43))) 1 (some (q 44))) 2 (some (q 45))) 3 (some (q 46)))))))), ((q 43), .inr (6, [.ref (q 47), .int 0, .int 0, .int 0])), ((q 44), .inr (6, [.ref (q 48), .int 0, .int 0, .int 0])), ((q 45), .inr (6, [.ref (q 49), .int 0, .int 0, .int 0])), ((q 46), .inr (6, [.ref (q 50), .int 0, .int 0, .int 0])), ((q 47), .inl ((k 21), 60, .inr (.inl (fun _ => 0)))), ((q 48), .inl ((k 22), 60, .inr (.inl (fun _ => 0)))), ((q 49), .inl ((k 23), 60, .inr (.inl (fun _ => 0)))), ((q 50), .inl ((k 24), 60, .inr (.inl (fun _ => 0))))]) [0, 29, 30, 32, 34, 36, 31, 33, 35, 37] rfl
  have hKc := hK.sub (tys' := [((k 20), .object RX6), ((k 21), .long), ((k 22), .long), ((k 23), .long), ((k 24), .long)]) [20, 21, 22, 23, 24] rfl
  have hDc := hD.sub (ws' := [((q 0), .inr (11, [.ref (q 1), .ref (q 2), .ref (q 3), .ref (q 4), .ref (q 5), .ref (q 6), .ref (q 7), .ref (q 8), .ref (q 9), .ref (q 10), .ref (q 11), .ref (q 12), .ref (q 13), .ref (q 14), .ref (q 15)])), ((q 14), .inl ((k 20), 4, .inr (.inr (.inr (.inr (va_up (va_up (va_up (va_up (fun _ => none) 0 (some (q 43))) 1 (some (q 44))) 2 (some (q 45))) 3 (some (q 46)))))))), ((q 43), .inr (6, [.ref (q 47), .int 0, .int 0, .int 0])), ((q 44), .inr (6, [.ref (q 48), .int 0, .int 0, .int 0])), ((q 45), .inr (6, [.ref (q 49), .int 0, .int 0, .int 0])), ((q 46), .inr (6, [.ref (q 50), .int 0, .int 0, .int 0])), ((q 47), .inl ((k 21), 60, .inr (.inl (fun _ => 0)))), ((q 48), .inl ((k 22), 60, .inr (.inl (fun _ => 0)))), ((q 49), .inl ((k 23), 60, .inr (.inl (fun _ => 0)))), ((q 50), .inl ((k 24), 60, .inr (.inl (fun _ => 0))))]) [0, 29, 30, 32, 34, 36, 31, 33, 35, 37] (by decide) rfl
  have hFc := va_free (wc := [((q 0), .inr (11, [.ref (q 1), .ref (q 2), .ref (q 3), .ref (q 4), .ref (q 5), .ref (q 6), .ref (q 7), .ref (q 8), .ref (q 9), .ref (q 10), .ref (q 11), .ref (q 12), .ref (q 13), .ref (q 14), .ref (q 15)])), ((q 14), .inl ((k 20), 4, .inr (.inr (.inr (.inr (va_up (va_up (va_up (va_up (fun _ => none) 0 (some (q 43))) 1 (some (q 44))) 2 (some (q 45))) 3 (some (q 46)))))))), ((q 43), .inr (6, [.ref (q 47), .int 0, .int 0, .int 0])), ((q 44), .inr (6, [.ref (q 48), .int 0, .int 0, .int 0])), ((q 45), .inr (6, [.ref (q 49), .int 0, .int 0, .int 0])), ((q 46), .inr (6, [.ref (q 50), .int 0, .int 0, .int 0])), ((q 47), .inl ((k 21), 60, .inr (.inl (fun _ => 0)))), ((q 48), .inl ((k 22), 60, .inr (.inl (fun _ => 0)))), ((q 49), .inl ((k 23), 60, .inr (.inl (fun _ => 0)))), ((q 50), .inl ((k 24), 60, .inr (.inl (fun _ => 0))))]) hD hS hA [0, 29, 30, 32, 34, 36, 31, 33, 35, 37] rfl
  refine va_calli (va_runV (As := [.int (xs 1), .int (xs 2), .int (xs 3)]) (rest := []) ⟨hx, hb, hml, hown, hts⟩ (f_X11_row l dC dI H.size ((q 0)) ((q 1)) ((q 2)) ((q 3)) ((q 4)) ((q 5)) ((q 6)) ((q 7)) ((q 8)) ((q 9)) ((q 10)) ((q 11)) ((q 12)) ((q 13)) ((q 14)) ((q 15)) ((q 43)) ((q 44)) ((q 45)) ((q 46)) ((q 47)) ((q 48)) ((q 49)) ((q 50)) ((k 20)) ((k 21)) ((k 22)) ((k 23)) ((k 24)) ((fun _ => 0)) ((fun _ => 0)) ((fun _ => 0)) ((fun _ => 0)) ((xs 1)) ((xs 2)) ((xs 3))) (cwV 3 hts (gk_V tw_1112 tw_1113 tw_1114 tw_157 wki_f_X11_row wkg_f_X11_row) rfl rfl rfl (by decide +kernel) ⟨Nat.le_of_ble_eq_true rfl, Nat.le_of_ble_eq_true rfl⟩) ⟨fun a U g mk q => by obtain ⟨q0, q1, qP, qK, qD⟩ := q; exact ⟨q0, q1, qP, va_K.moved (u := U) (U := U.calling g mk a) (Vm.Alike.refl U.vm) qK, qD⟩, va_recv hKc hPc (ci := 11) (q0 := 0) rfl rfl, fun U hU hW => ⟨rfl, by rw [hU], by rw [hU]; exact hPc, va_K.moved hW.alike hKc, hDc.weaken (fun _ _ _ _ => trivial)⟩⟩ rfl rfl hl.1 rfl (lv_room (Nat.le_of_ble_eq_true rfl)) dL_law_2130 ⟨Nat.le_of_ble_eq_true rfl, Nat.le_of_ble_eq_true rfl⟩) hS (fun q _ h => hFc q h) hFc (fun oz5 u t H1 locs ht hvm gz4 hB hz1 hk1 hS => ?_)
  have hP1 : va_P (dC, dI) vwCl [] H1 := fun k q h => by simp at h
  have hD1 : va_D (va_A [((q 0), .inr (11, [.ref (q 1), .ref (q 2), .ref (q 3), .ref (q 4), .ref (q 5), .ref (q 6), .ref (q 7), .ref (q 8), .ref (q 9), .ref (q 10), .ref (q 11), .ref (q 12), .ref (q 13), .ref (q 14), .ref (q 15)])), ((q 14), .inl ((k 20), 4, .inr (.inr (.inr (.inr (va_up (va_up (va_up (va_up (fun _ => none) 0 (some (q 43))) 1 (some (q 44))) 2 (some (q 45))) 3 (some (q 46)))))))), ((q 43), .inr (6, [.ref (q 47), .int 0, .int 0, .int 0])), ((q 44), .inr (6, [.ref (q 48), .int 0, .int 0, .int 0])), ((q 45), .inr (6, [.ref (q 49), .int 0, .int 0, .int 0])), ((q 46), .inr (6, [.ref (q 50), .int 0, .int 0, .int 0])), ((q 47), .inl ((k 21), 60, .inr (.inl (fun _ => 0)))), ((q 48), .inl ((k 22), 60, .inr (.inl (fun _ => 0)))), ((q 49), .inl ((k 23), 60, .inr (.inl (fun _ => 0)))), ((q 50), .inl ((k 24), 60, .inr (.inl (fun _ => 0))))] H.size) [] := ⟨fun i j p q h => by simp at h, fun k q h => by simp at h⟩
  obtain ⟨hP, hD⟩ := va_join (wr := wM r j) (w1 := []) hP hD [0, 29, 30, 32, 34, 36, 31, 33, 35, 37] [78, 79, 80, 81, 82, 83, 84, 85, 86, 87, 88, 89, 90] rfl rfl (by decide) (by decide) hk1 hFc hP1 hD1
  have hK := hK.sub (tys' := tM j) [56, 57, 58, 59, 60, 61, 62, 63, 64, 65, 66, 67] rfl
  clear hPc hKc hDc hFc hk1 hB hP1 hD1 hz1
  generalize H1 = H at hP hS ⊢
  have hP : va_P (dC, dI) vwCl (wM r j) H := hP
  have hD : va_D A (wM r j) := hD
  refine W.widen (k := 305) (n := 4995) (Nat.le_of_ble_eq_true rfl) (Nat.le_of_ble_eq_true rfl) ?_
  rcases gz4 with ⟨rfl, cz6⟩ | ⟨rfl, cz7, cz8⟩ | ⟨rfl, cz9, cz10, cz11⟩ | ⟨rfl, cz12, cz13, cz14, cz15⟩ | ⟨rfl, cz16, cz17, cz18, cz19, cz20, cz21⟩ | ⟨rfl, cz22, cz23, cz24, cz25, cz26, cz27⟩ | ⟨rfl, cz28, cz29, cz30, cz31, cz32⟩
  · skip
    refine lv_aload_n hx hb dL_law_2133 rfl (lv_at hl 2 rfl) ?_
    refine lv_aload_n hx hb dL_law_2134 rfl (lv_at hl 0 rfl) ?_
    refine lv_iload_n hx hb dL_law_2135 rfl (lv_at hl 3 rfl) ?_
    refine lv_iconst (v := 1) hx hb dL_law_2136 (by decide) ?_
    refine lv_iadd hx hb dL_law_2137 ?_
    refine lv_topi (fun xz33 exz33 => ?_)
    obtain rfl : xz33 = 1 := exz33.trans (by decide)
    refine va_sld hx hb hX hbl hbA hS (by rw [hL6]; unfold vp_in; decide) dL_law_2138 ?_
    refine W.eq (g2 := F0 m 2139 ls [.int (xs 1), .ref (r 0), .int (-2)]) rfl ?_
    refine lv_aload_n hx hb dL_law_2139 rfl (lv_at hl 0 rfl) ?_
    refine lv_iload_n hx hb dL_law_2140 rfl (lv_at hl 3 rfl) ?_
    refine lv_iconst (v := 2) hx hb dL_law_2141 (by decide) ?_
    refine lv_iadd hx hb dL_law_2142 ?_
    refine lv_topi (fun xz34 exz34 => ?_)
    obtain rfl : xz34 = 2 := exz34.trans (by decide)
    refine va_sld hx hb hX hbl hbA hS (by rw [hL6]; unfold vp_in; decide) dL_law_2143 ?_
    refine W.eq (g2 := F0 m 2144 ls [.int (xs 2), .int (xs 1), .ref (r 0), .int (-2)]) rfl ?_
    refine lv_aload_n hx hb dL_law_2144 rfl (lv_at hl 0 rfl) ?_
    refine lv_iload_n hx hb dL_law_2145 rfl (lv_at hl 3 rfl) ?_
    refine lv_iconst (v := 3) hx hb dL_law_2146 (by decide) ?_
    refine lv_iadd hx hb dL_law_2147 ?_
    refine lv_topi (fun xz35 exz35 => ?_)
    obtain rfl : xz35 = 3 := exz35.trans (by decide)
    refine va_sld hx hb hX hbl hbA hS (by rw [hL6]; unfold vp_in; decide) dL_law_2148 ?_
    refine W.eq (g2 := F0 m 2149 ls [.int (xs 3), .int (xs 2), .int (xs 1), .ref (r 0), .int (-2)]) rfl ?_
    have hPc := hP.sub (ws' := [((r 0), .inr (12, [.int 0, .ref (r 1), .ref (r 2), .ref (r 3), .ref (r 4), .ref (r 5), .int 0, .int 0, .int 0, .int 0, .int 0, .long 0, .int 0, .int 0, .int 0, .int (-1), .ref (r 6), .ref (r 7), .ref (r 8), .ref (r 9), .ref (r 10), .ref (r 11), .ref (r 12), .ref (r 13), .int 0, .int 0, .int 0, .ref (r 14), .ref (r 15), .ref (r 16), .ref (r 17), .ref (r 18), .ref (r 19), .ref (r 20), .ref (r 21), .ref (r 22), .ref (r 23), .ref (r 24), .ref (r 25), .ref (r 26), .ref (r 27), .ref (r 28), .ref (r 29), .int 0, .int 0, .int 0, .ref (r 30), .int 0, .int 0, .int 0, .int 0, .int 0, .int 0, .ref (r 31), .int 0, .int 0, .int 0, .ref (r 32), .ref (r 33)])), ((r 1), .inl ((j 0), 4, .inl (upd (upd (upd (upd (fun _ => 0) 0 (-1)) 1 (-1)) 2 (-1)) 3 (-1)))), ((r 2), .inl ((j 1), 4, .inl (fun _ => 0))), ((r 3), .inl ((j 2), 240, .inr (.inl (fun _ => 0))))]) [0, 1, 2, 3] rfl
    have hKc := hK.sub (tys' := [((j 0), .int), ((j 1), .int), ((j 2), .long)]) [0, 1, 2] rfl
    have hDc := hD.sub (ws' := [((r 0), .inr (12, [.int 0, .ref (r 1), .ref (r 2), .ref (r 3), .ref (r 4), .ref (r 5), .int 0, .int 0, .int 0, .int 0, .int 0, .long 0, .int 0, .int 0, .int 0, .int (-1), .ref (r 6), .ref (r 7), .ref (r 8), .ref (r 9), .ref (r 10), .ref (r 11), .ref (r 12), .ref (r 13), .int 0, .int 0, .int 0, .ref (r 14), .ref (r 15), .ref (r 16), .ref (r 17), .ref (r 18), .ref (r 19), .ref (r 20), .ref (r 21), .ref (r 22), .ref (r 23), .ref (r 24), .ref (r 25), .ref (r 26), .ref (r 27), .ref (r 28), .ref (r 29), .int 0, .int 0, .int 0, .ref (r 30), .int 0, .int 0, .int 0, .int 0, .int 0, .int 0, .ref (r 31), .int 0, .int 0, .int 0, .ref (r 32), .ref (r 33)])), ((r 1), .inl ((j 0), 4, .inl (upd (upd (upd (upd (fun _ => 0) 0 (-1)) 1 (-1)) 2 (-1)) 3 (-1)))), ((r 2), .inl ((j 1), 4, .inl (fun _ => 0))), ((r 3), .inl ((j 2), 240, .inr (.inl (fun _ => 0))))]) [0, 1, 2, 3] (by decide) rfl
    have hFc := va_free (wc := [((r 0), .inr (12, [.int 0, .ref (r 1), .ref (r 2), .ref (r 3), .ref (r 4), .ref (r 5), .int 0, .int 0, .int 0, .int 0, .int 0, .long 0, .int 0, .int 0, .int 0, .int (-1), .ref (r 6), .ref (r 7), .ref (r 8), .ref (r 9), .ref (r 10), .ref (r 11), .ref (r 12), .ref (r 13), .int 0, .int 0, .int 0, .ref (r 14), .ref (r 15), .ref (r 16), .ref (r 17), .ref (r 18), .ref (r 19), .ref (r 20), .ref (r 21), .ref (r 22), .ref (r 23), .ref (r 24), .ref (r 25), .ref (r 26), .ref (r 27), .ref (r 28), .ref (r 29), .int 0, .int 0, .int 0, .ref (r 30), .int 0, .int 0, .int 0, .int 0, .int 0, .int 0, .ref (r 31), .int 0, .int 0, .int 0, .ref (r 32), .ref (r 33)])), ((r 1), .inl ((j 0), 4, .inl (upd (upd (upd (upd (fun _ => 0) 0 (-1)) 1 (-1)) 2 (-1)) 3 (-1)))), ((r 2), .inl ((j 1), 4, .inl (fun _ => 0))), ((r 3), .inl ((j 2), 240, .inr (.inl (fun _ => 0))))]) hD hS hA [0, 1, 2, 3] rfl
    refine va_calli (va_runV (As := [.int (xs 1), .int (xs 2), .int (xs 3)]) (rest := [.int (-2)]) ⟨hx, hb, hml, hown, hts⟩ (f_X12_row l dC dI H.size ((r 0)) ((r 1)) ((r 2)) ((r 3)) ((r 4)) ((r 5)) ((r 6)) ((r 7)) ((r 8)) ((r 9)) ((r 10)) ((r 11)) ((r 12)) ((r 13)) ((r 14)) ((r 15)) ((r 16)) ((r 17)) ((r 18)) ((r 19)) ((r 20)) ((r 21)) ((r 22)) ((r 23)) ((r 24)) ((r 25)) ((r 26)) ((r 27)) ((r 28)) ((r 29)) ((r 30)) ((r 31)) ((r 32)) ((r 33)) ((j 0)) ((j 1)) ((j 2)) ((xs 1)) ((xs 2)) ((xs 3))) (cwV 3 hts (gk_V tw_1115 tw_1116 tw_1117 tw_505 wki_f_X12_row wkg_f_X12_row) rfl rfl rfl (by decide +kernel) ⟨Nat.le_of_ble_eq_true rfl, Nat.le_of_ble_eq_true rfl⟩) ⟨fun a U g mk q => by obtain ⟨q0, q1, qP, qK, qD⟩ := q; exact ⟨q0, q1, qP, va_K.moved (u := U) (U := U.calling g mk a) (Vm.Alike.refl U.vm) qK, qD⟩, va_recv hKc hPc (ci := 12) (q0 := 0) rfl rfl, fun U hU hW => ⟨rfl, by rw [hU], by rw [hU]; exact hPc, va_K.moved hW.alike hKc, hDc.weaken (fun _ _ _ _ => trivial)⟩⟩ rfl rfl hl.1 rfl (lv_room (Nat.le_of_ble_eq_true rfl)) dL_law_2149 ⟨Nat.le_of_ble_eq_true rfl, Nat.le_of_ble_eq_true rfl⟩) hS (fun q _ h => hFc q h) hFc (fun oz37 u t H1 locs ht hvm gz36 hB hz1 hk1 hS => ?_)
    generalize H1 = H at hS ⊢
    refine W.widen (k := 305) (n := 4995) (Nat.le_of_ble_eq_true rfl) (Nat.le_of_ble_eq_true rfl) ?_
    rcases gz36 with ⟨rfl, cz38⟩ | ⟨rfl, cz39, cz40⟩ | ⟨rfl, cz41, cz42, cz43⟩ | ⟨rfl, cz44, cz45, cz46, cz47⟩ | ⟨rfl, cz48, cz49, cz50, cz51, cz52, cz53⟩ | ⟨rfl, cz54, cz55, cz56, cz57, cz58, cz59⟩ | ⟨rfl, cz60, cz61, cz62, cz63, cz64⟩
    · skip
      refine lv_icmp_eq (tgt := 2293) hx hb dL_law_2152 (by decide) (fun cz65 => ?_) (fun cz65 => ?_)
      · skip
        exact law_end (dC := dC) (dI := dI) (Nat.le_of_eq hL6) C0 A hAe (q 0) (r 0) H locs hS ls hl
      · skip
        exact absurd cz65 (by decide)
    · skip
      have z0 : (xs 1).toInt < (0 : Int) := zi_lt.mp cz6
      have z1 : ¬ (xs 1).toInt < (0 : Int) := by intro h9; apply cz39; rw [zi_ltL]; simp only [Int32.toInt_toInt64]; exact h9
      omega
    · skip
      have z0 : (xs 1).toInt < (0 : Int) := zi_lt.mp cz6
      have z1 : ¬ (xs 1).toInt < (0 : Int) := by intro h9; apply cz41; rw [zi_ltL]; simp only [Int32.toInt_toInt64]; exact h9
      omega
    · skip
      have z0 : (xs 1).toInt < (0 : Int) := zi_lt.mp cz6
      have z1 : ¬ (xs 1).toInt < (0 : Int) := by intro h9; apply cz44; rw [zi_ltL]; simp only [Int32.toInt_toInt64]; exact h9
      omega
    · skip
      have z0 : (xs 1).toInt < (0 : Int) := zi_lt.mp cz6
      have z1 : ¬ (xs 1).toInt < (0 : Int) := by intro h9; apply cz48; rw [zi_ltL]; simp only [Int32.toInt_toInt64]; exact h9
      omega
    · skip
      have z0 : (xs 1).toInt < (0 : Int) := zi_lt.mp cz6
      have z1 : ¬ (xs 1).toInt < (0 : Int) := by intro h9; apply cz54; rw [zi_ltL]; simp only [Int32.toInt_toInt64]; exact h9
      omega
    · skip
      have z0 : (xs 1).toInt < (0 : Int) := zi_lt.mp cz6
      have z1 : ¬ (xs 1).toInt < (0 : Int) := by intro h9; apply cz60; rw [zi_ltL]; simp only [Int32.toInt_toInt64]; exact h9
      omega
  · skip
    refine lv_aload_n hx hb dL_law_2133 rfl (lv_at hl 2 rfl) ?_
    refine lv_aload_n hx hb dL_law_2134 rfl (lv_at hl 0 rfl) ?_
    refine lv_iload_n hx hb dL_law_2135 rfl (lv_at hl 3 rfl) ?_
    refine lv_iconst (v := 1) hx hb dL_law_2136 (by decide) ?_
    refine lv_iadd hx hb dL_law_2137 ?_
    refine lv_topi (fun xz66 exz66 => ?_)
    obtain rfl : xz66 = 1 := exz66.trans (by decide)
    refine va_sld hx hb hX hbl hbA hS (by rw [hL6]; unfold vp_in; decide) dL_law_2138 ?_
    refine W.eq (g2 := F0 m 2139 ls [.int (xs 1), .ref (r 0), .int (-2)]) rfl ?_
    refine lv_aload_n hx hb dL_law_2139 rfl (lv_at hl 0 rfl) ?_
    refine lv_iload_n hx hb dL_law_2140 rfl (lv_at hl 3 rfl) ?_
    refine lv_iconst (v := 2) hx hb dL_law_2141 (by decide) ?_
    refine lv_iadd hx hb dL_law_2142 ?_
    refine lv_topi (fun xz67 exz67 => ?_)
    obtain rfl : xz67 = 2 := exz67.trans (by decide)
    refine va_sld hx hb hX hbl hbA hS (by rw [hL6]; unfold vp_in; decide) dL_law_2143 ?_
    refine W.eq (g2 := F0 m 2144 ls [.int (xs 2), .int (xs 1), .ref (r 0), .int (-2)]) rfl ?_
    refine lv_aload_n hx hb dL_law_2144 rfl (lv_at hl 0 rfl) ?_
    refine lv_iload_n hx hb dL_law_2145 rfl (lv_at hl 3 rfl) ?_
    refine lv_iconst (v := 3) hx hb dL_law_2146 (by decide) ?_
    refine lv_iadd hx hb dL_law_2147 ?_
    refine lv_topi (fun xz68 exz68 => ?_)
    obtain rfl : xz68 = 3 := exz68.trans (by decide)
    refine va_sld hx hb hX hbl hbA hS (by rw [hL6]; unfold vp_in; decide) dL_law_2148 ?_
    refine W.eq (g2 := F0 m 2149 ls [.int (xs 3), .int (xs 2), .int (xs 1), .ref (r 0), .int (-2)]) rfl ?_
    have hPc := hP.sub (ws' := [((r 0), .inr (12, [.int 0, .ref (r 1), .ref (r 2), .ref (r 3), .ref (r 4), .ref (r 5), .int 0, .int 0, .int 0, .int 0, .int 0, .long 0, .int 0, .int 0, .int 0, .int (-1), .ref (r 6), .ref (r 7), .ref (r 8), .ref (r 9), .ref (r 10), .ref (r 11), .ref (r 12), .ref (r 13), .int 0, .int 0, .int 0, .ref (r 14), .ref (r 15), .ref (r 16), .ref (r 17), .ref (r 18), .ref (r 19), .ref (r 20), .ref (r 21), .ref (r 22), .ref (r 23), .ref (r 24), .ref (r 25), .ref (r 26), .ref (r 27), .ref (r 28), .ref (r 29), .int 0, .int 0, .int 0, .ref (r 30), .int 0, .int 0, .int 0, .int 0, .int 0, .int 0, .ref (r 31), .int 0, .int 0, .int 0, .ref (r 32), .ref (r 33)])), ((r 1), .inl ((j 0), 4, .inl (upd (upd (upd (upd (fun _ => 0) 0 (-1)) 1 (-1)) 2 (-1)) 3 (-1)))), ((r 2), .inl ((j 1), 4, .inl (fun _ => 0))), ((r 3), .inl ((j 2), 240, .inr (.inl (fun _ => 0))))]) [0, 1, 2, 3] rfl
    have hKc := hK.sub (tys' := [((j 0), .int), ((j 1), .int), ((j 2), .long)]) [0, 1, 2] rfl
    have hDc := hD.sub (ws' := [((r 0), .inr (12, [.int 0, .ref (r 1), .ref (r 2), .ref (r 3), .ref (r 4), .ref (r 5), .int 0, .int 0, .int 0, .int 0, .int 0, .long 0, .int 0, .int 0, .int 0, .int (-1), .ref (r 6), .ref (r 7), .ref (r 8), .ref (r 9), .ref (r 10), .ref (r 11), .ref (r 12), .ref (r 13), .int 0, .int 0, .int 0, .ref (r 14), .ref (r 15), .ref (r 16), .ref (r 17), .ref (r 18), .ref (r 19), .ref (r 20), .ref (r 21), .ref (r 22), .ref (r 23), .ref (r 24), .ref (r 25), .ref (r 26), .ref (r 27), .ref (r 28), .ref (r 29), .int 0, .int 0, .int 0, .ref (r 30), .int 0, .int 0, .int 0, .int 0, .int 0, .int 0, .ref (r 31), .int 0, .int 0, .int 0, .ref (r 32), .ref (r 33)])), ((r 1), .inl ((j 0), 4, .inl (upd (upd (upd (upd (fun _ => 0) 0 (-1)) 1 (-1)) 2 (-1)) 3 (-1)))), ((r 2), .inl ((j 1), 4, .inl (fun _ => 0))), ((r 3), .inl ((j 2), 240, .inr (.inl (fun _ => 0))))]) [0, 1, 2, 3] (by decide) rfl
    have hFc := va_free (wc := [((r 0), .inr (12, [.int 0, .ref (r 1), .ref (r 2), .ref (r 3), .ref (r 4), .ref (r 5), .int 0, .int 0, .int 0, .int 0, .int 0, .long 0, .int 0, .int 0, .int 0, .int (-1), .ref (r 6), .ref (r 7), .ref (r 8), .ref (r 9), .ref (r 10), .ref (r 11), .ref (r 12), .ref (r 13), .int 0, .int 0, .int 0, .ref (r 14), .ref (r 15), .ref (r 16), .ref (r 17), .ref (r 18), .ref (r 19), .ref (r 20), .ref (r 21), .ref (r 22), .ref (r 23), .ref (r 24), .ref (r 25), .ref (r 26), .ref (r 27), .ref (r 28), .ref (r 29), .int 0, .int 0, .int 0, .ref (r 30), .int 0, .int 0, .int 0, .int 0, .int 0, .int 0, .ref (r 31), .int 0, .int 0, .int 0, .ref (r 32), .ref (r 33)])), ((r 1), .inl ((j 0), 4, .inl (upd (upd (upd (upd (fun _ => 0) 0 (-1)) 1 (-1)) 2 (-1)) 3 (-1)))), ((r 2), .inl ((j 1), 4, .inl (fun _ => 0))), ((r 3), .inl ((j 2), 240, .inr (.inl (fun _ => 0))))]) hD hS hA [0, 1, 2, 3] rfl
    refine va_calli (va_runV (As := [.int (xs 1), .int (xs 2), .int (xs 3)]) (rest := [.int (-2)]) ⟨hx, hb, hml, hown, hts⟩ (f_X12_row l dC dI H.size ((r 0)) ((r 1)) ((r 2)) ((r 3)) ((r 4)) ((r 5)) ((r 6)) ((r 7)) ((r 8)) ((r 9)) ((r 10)) ((r 11)) ((r 12)) ((r 13)) ((r 14)) ((r 15)) ((r 16)) ((r 17)) ((r 18)) ((r 19)) ((r 20)) ((r 21)) ((r 22)) ((r 23)) ((r 24)) ((r 25)) ((r 26)) ((r 27)) ((r 28)) ((r 29)) ((r 30)) ((r 31)) ((r 32)) ((r 33)) ((j 0)) ((j 1)) ((j 2)) ((xs 1)) ((xs 2)) ((xs 3))) (cwV 3 hts (gk_V tw_1115 tw_1116 tw_1117 tw_505 wki_f_X12_row wkg_f_X12_row) rfl rfl rfl (by decide +kernel) ⟨Nat.le_of_ble_eq_true rfl, Nat.le_of_ble_eq_true rfl⟩) ⟨fun a U g mk q => by obtain ⟨q0, q1, qP, qK, qD⟩ := q; exact ⟨q0, q1, qP, va_K.moved (u := U) (U := U.calling g mk a) (Vm.Alike.refl U.vm) qK, qD⟩, va_recv hKc hPc (ci := 12) (q0 := 0) rfl rfl, fun U hU hW => ⟨rfl, by rw [hU], by rw [hU]; exact hPc, va_K.moved hW.alike hKc, hDc.weaken (fun _ _ _ _ => trivial)⟩⟩ rfl rfl hl.1 rfl (lv_room (Nat.le_of_ble_eq_true rfl)) dL_law_2149 ⟨Nat.le_of_ble_eq_true rfl, Nat.le_of_ble_eq_true rfl⟩) hS (fun q _ h => hFc q h) hFc (fun oz70 u t H1 locs ht hvm gz69 hB hz1 hk1 hS => ?_)
    generalize H1 = H at hS ⊢
    refine W.widen (k := 305) (n := 4995) (Nat.le_of_ble_eq_true rfl) (Nat.le_of_ble_eq_true rfl) ?_
    rcases gz69 with ⟨rfl, cz71⟩ | ⟨rfl, cz72, cz73⟩ | ⟨rfl, cz74, cz75, cz76⟩ | ⟨rfl, cz77, cz78, cz79, cz80⟩ | ⟨rfl, cz81, cz82, cz83, cz84, cz85, cz86⟩ | ⟨rfl, cz87, cz88, cz89, cz90, cz91, cz92⟩ | ⟨rfl, cz93, cz94, cz95, cz96, cz97⟩
    · skip
      have z0 : ¬ (xs 1).toInt < (0 : Int) := fun h9 => cz7 (zi_lt.mpr h9)
      have z1 : (4 : Int) ≤ (xs 1).toInt := zi_le.mp cz8
      have z2 : (xs 1).toInt < (0 : Int) := by have h9 := zi_ltL.mp cz71; simp only [Int32.toInt_toInt64] at h9; exact h9
      omega
    · skip
      refine lv_icmp_eq (tgt := 2293) hx hb dL_law_2152 (by decide) (fun cz98 => ?_) (fun cz98 => ?_)
      · skip
        exact law_end (dC := dC) (dI := dI) (Nat.le_of_eq hL6) C0 A hAe (q 0) (r 0) H locs hS ls hl
      · skip
        exact absurd cz98 (by decide)
    · skip
      have z0 : ¬ (xs 1).toInt < (0 : Int) := fun h9 => cz7 (zi_lt.mpr h9)
      have z1 : (4 : Int) ≤ (xs 1).toInt := zi_le.mp cz8
      have z2 : ¬ (xs 1).toInt < (0 : Int) := by intro h9; apply cz74; rw [zi_ltL]; simp only [Int32.toInt_toInt64]; exact h9
      have z3 : ¬ (3 : Int) < (xs 1).toInt := by intro h9; apply cz75; rw [zi_ltL]; simp only [Int32.toInt_toInt64]; exact h9
      omega
    · skip
      have z0 : ¬ (xs 1).toInt < (0 : Int) := fun h9 => cz7 (zi_lt.mpr h9)
      have z1 : (4 : Int) ≤ (xs 1).toInt := zi_le.mp cz8
      have z2 : ¬ (xs 1).toInt < (0 : Int) := by intro h9; apply cz77; rw [zi_ltL]; simp only [Int32.toInt_toInt64]; exact h9
      have z3 : ¬ (3 : Int) < (xs 1).toInt := by intro h9; apply cz78; rw [zi_ltL]; simp only [Int32.toInt_toInt64]; exact h9
      omega
    · skip
      have z0 : ¬ (xs 1).toInt < (0 : Int) := fun h9 => cz7 (zi_lt.mpr h9)
      have z1 : (4 : Int) ≤ (xs 1).toInt := zi_le.mp cz8
      have z2 : ¬ (xs 1).toInt < (0 : Int) := by intro h9; apply cz81; rw [zi_ltL]; simp only [Int32.toInt_toInt64]; exact h9
      have z3 : ¬ (3 : Int) < (xs 1).toInt := by intro h9; apply cz82; rw [zi_ltL]; simp only [Int32.toInt_toInt64]; exact h9
      omega
    · skip
      have z0 : ¬ (xs 1).toInt < (0 : Int) := fun h9 => cz7 (zi_lt.mpr h9)
      have z1 : (4 : Int) ≤ (xs 1).toInt := zi_le.mp cz8
      have z2 : ¬ (xs 1).toInt < (0 : Int) := by intro h9; apply cz87; rw [zi_ltL]; simp only [Int32.toInt_toInt64]; exact h9
      have z3 : ¬ (3 : Int) < (xs 1).toInt := by intro h9; apply cz88; rw [zi_ltL]; simp only [Int32.toInt_toInt64]; exact h9
      omega
    · skip
      have z0 : ¬ (xs 1).toInt < (0 : Int) := fun h9 => cz7 (zi_lt.mpr h9)
      have z1 : (4 : Int) ≤ (xs 1).toInt := zi_le.mp cz8
      have z2 : ¬ (xs 1).toInt < (0 : Int) := by intro h9; apply cz93; rw [zi_ltL]; simp only [Int32.toInt_toInt64]; exact h9
      have z3 : ¬ (3 : Int) < (xs 1).toInt := by intro h9; apply cz94; rw [zi_ltL]; simp only [Int32.toInt_toInt64]; exact h9
      omega
  · skip
    refine lv_aload_n hx hb dL_law_2133 rfl (lv_at hl 2 rfl) ?_
    refine lv_aload_n hx hb dL_law_2134 rfl (lv_at hl 0 rfl) ?_
    refine lv_iload_n hx hb dL_law_2135 rfl (lv_at hl 3 rfl) ?_
    refine lv_iconst (v := 1) hx hb dL_law_2136 (by decide) ?_
    refine lv_iadd hx hb dL_law_2137 ?_
    refine lv_topi (fun xz99 exz99 => ?_)
    obtain rfl : xz99 = 1 := exz99.trans (by decide)
    refine va_sld hx hb hX hbl hbA hS (by rw [hL6]; unfold vp_in; decide) dL_law_2138 ?_
    refine W.eq (g2 := F0 m 2139 ls [.int (xs 1), .ref (r 0), .int (-2)]) rfl ?_
    refine lv_aload_n hx hb dL_law_2139 rfl (lv_at hl 0 rfl) ?_
    refine lv_iload_n hx hb dL_law_2140 rfl (lv_at hl 3 rfl) ?_
    refine lv_iconst (v := 2) hx hb dL_law_2141 (by decide) ?_
    refine lv_iadd hx hb dL_law_2142 ?_
    refine lv_topi (fun xz100 exz100 => ?_)
    obtain rfl : xz100 = 2 := exz100.trans (by decide)
    refine va_sld hx hb hX hbl hbA hS (by rw [hL6]; unfold vp_in; decide) dL_law_2143 ?_
    refine W.eq (g2 := F0 m 2144 ls [.int (xs 2), .int (xs 1), .ref (r 0), .int (-2)]) rfl ?_
    refine lv_aload_n hx hb dL_law_2144 rfl (lv_at hl 0 rfl) ?_
    refine lv_iload_n hx hb dL_law_2145 rfl (lv_at hl 3 rfl) ?_
    refine lv_iconst (v := 3) hx hb dL_law_2146 (by decide) ?_
    refine lv_iadd hx hb dL_law_2147 ?_
    refine lv_topi (fun xz101 exz101 => ?_)
    obtain rfl : xz101 = 3 := exz101.trans (by decide)
    refine va_sld hx hb hX hbl hbA hS (by rw [hL6]; unfold vp_in; decide) dL_law_2148 ?_
    refine W.eq (g2 := F0 m 2149 ls [.int (xs 3), .int (xs 2), .int (xs 1), .ref (r 0), .int (-2)]) rfl ?_
    have hPc := hP.sub (ws' := [((r 0), .inr (12, [.int 0, .ref (r 1), .ref (r 2), .ref (r 3), .ref (r 4), .ref (r 5), .int 0, .int 0, .int 0, .int 0, .int 0, .long 0, .int 0, .int 0, .int 0, .int (-1), .ref (r 6), .ref (r 7), .ref (r 8), .ref (r 9), .ref (r 10), .ref (r 11), .ref (r 12), .ref (r 13), .int 0, .int 0, .int 0, .ref (r 14), .ref (r 15), .ref (r 16), .ref (r 17), .ref (r 18), .ref (r 19), .ref (r 20), .ref (r 21), .ref (r 22), .ref (r 23), .ref (r 24), .ref (r 25), .ref (r 26), .ref (r 27), .ref (r 28), .ref (r 29), .int 0, .int 0, .int 0, .ref (r 30), .int 0, .int 0, .int 0, .int 0, .int 0, .int 0, .ref (r 31), .int 0, .int 0, .int 0, .ref (r 32), .ref (r 33)])), ((r 1), .inl ((j 0), 4, .inl (upd (upd (upd (upd (fun _ => 0) 0 (-1)) 1 (-1)) 2 (-1)) 3 (-1)))), ((r 2), .inl ((j 1), 4, .inl (fun _ => 0))), ((r 3), .inl ((j 2), 240, .inr (.inl (fun _ => 0))))]) [0, 1, 2, 3] rfl
    have hKc := hK.sub (tys' := [((j 0), .int), ((j 1), .int), ((j 2), .long)]) [0, 1, 2] rfl
    have hDc := hD.sub (ws' := [((r 0), .inr (12, [.int 0, .ref (r 1), .ref (r 2), .ref (r 3), .ref (r 4), .ref (r 5), .int 0, .int 0, .int 0, .int 0, .int 0, .long 0, .int 0, .int 0, .int 0, .int (-1), .ref (r 6), .ref (r 7), .ref (r 8), .ref (r 9), .ref (r 10), .ref (r 11), .ref (r 12), .ref (r 13), .int 0, .int 0, .int 0, .ref (r 14), .ref (r 15), .ref (r 16), .ref (r 17), .ref (r 18), .ref (r 19), .ref (r 20), .ref (r 21), .ref (r 22), .ref (r 23), .ref (r 24), .ref (r 25), .ref (r 26), .ref (r 27), .ref (r 28), .ref (r 29), .int 0, .int 0, .int 0, .ref (r 30), .int 0, .int 0, .int 0, .int 0, .int 0, .int 0, .ref (r 31), .int 0, .int 0, .int 0, .ref (r 32), .ref (r 33)])), ((r 1), .inl ((j 0), 4, .inl (upd (upd (upd (upd (fun _ => 0) 0 (-1)) 1 (-1)) 2 (-1)) 3 (-1)))), ((r 2), .inl ((j 1), 4, .inl (fun _ => 0))), ((r 3), .inl ((j 2), 240, .inr (.inl (fun _ => 0))))]) [0, 1, 2, 3] (by decide) rfl
    have hFc := va_free (wc := [((r 0), .inr (12, [.int 0, .ref (r 1), .ref (r 2), .ref (r 3), .ref (r 4), .ref (r 5), .int 0, .int 0, .int 0, .int 0, .int 0, .long 0, .int 0, .int 0, .int 0, .int (-1), .ref (r 6), .ref (r 7), .ref (r 8), .ref (r 9), .ref (r 10), .ref (r 11), .ref (r 12), .ref (r 13), .int 0, .int 0, .int 0, .ref (r 14), .ref (r 15), .ref (r 16), .ref (r 17), .ref (r 18), .ref (r 19), .ref (r 20), .ref (r 21), .ref (r 22), .ref (r 23), .ref (r 24), .ref (r 25), .ref (r 26), .ref (r 27), .ref (r 28), .ref (r 29), .int 0, .int 0, .int 0, .ref (r 30), .int 0, .int 0, .int 0, .int 0, .int 0, .int 0, .ref (r 31), .int 0, .int 0, .int 0, .ref (r 32), .ref (r 33)])), ((r 1), .inl ((j 0), 4, .inl (upd (upd (upd (upd (fun _ => 0) 0 (-1)) 1 (-1)) 2 (-1)) 3 (-1)))), ((r 2), .inl ((j 1), 4, .inl (fun _ => 0))), ((r 3), .inl ((j 2), 240, .inr (.inl (fun _ => 0))))]) hD hS hA [0, 1, 2, 3] rfl
    refine va_calli (va_runV (As := [.int (xs 1), .int (xs 2), .int (xs 3)]) (rest := [.int (-2)]) ⟨hx, hb, hml, hown, hts⟩ (f_X12_row l dC dI H.size ((r 0)) ((r 1)) ((r 2)) ((r 3)) ((r 4)) ((r 5)) ((r 6)) ((r 7)) ((r 8)) ((r 9)) ((r 10)) ((r 11)) ((r 12)) ((r 13)) ((r 14)) ((r 15)) ((r 16)) ((r 17)) ((r 18)) ((r 19)) ((r 20)) ((r 21)) ((r 22)) ((r 23)) ((r 24)) ((r 25)) ((r 26)) ((r 27)) ((r 28)) ((r 29)) ((r 30)) ((r 31)) ((r 32)) ((r 33)) ((j 0)) ((j 1)) ((j 2)) ((xs 1)) ((xs 2)) ((xs 3))) (cwV 3 hts (gk_V tw_1115 tw_1116 tw_1117 tw_505 wki_f_X12_row wkg_f_X12_row) rfl rfl rfl (by decide +kernel) ⟨Nat.le_of_ble_eq_true rfl, Nat.le_of_ble_eq_true rfl⟩) ⟨fun a U g mk q => by obtain ⟨q0, q1, qP, qK, qD⟩ := q; exact ⟨q0, q1, qP, va_K.moved (u := U) (U := U.calling g mk a) (Vm.Alike.refl U.vm) qK, qD⟩, va_recv hKc hPc (ci := 12) (q0 := 0) rfl rfl, fun U hU hW => ⟨rfl, by rw [hU], by rw [hU]; exact hPc, va_K.moved hW.alike hKc, hDc.weaken (fun _ _ _ _ => trivial)⟩⟩ rfl rfl hl.1 rfl (lv_room (Nat.le_of_ble_eq_true rfl)) dL_law_2149 ⟨Nat.le_of_ble_eq_true rfl, Nat.le_of_ble_eq_true rfl⟩) hS (fun q _ h => hFc q h) hFc (fun oz103 u t H1 locs ht hvm gz102 hB hz1 hk1 hS => ?_)
    generalize H1 = H at hS ⊢
    refine W.widen (k := 305) (n := 4995) (Nat.le_of_ble_eq_true rfl) (Nat.le_of_ble_eq_true rfl) ?_
    rcases gz102 with ⟨rfl, cz104⟩ | ⟨rfl, cz105, cz106⟩ | ⟨rfl, cz107, cz108, cz109⟩ | ⟨rfl, cz110, cz111, cz112, cz113⟩ | ⟨rfl, cz114, cz115, cz116, cz117, cz118, cz119⟩ | ⟨rfl, cz120, cz121, cz122, cz123, cz124, cz125⟩ | ⟨rfl, cz126, cz127, cz128, cz129, cz130⟩
    · skip
      have z0 : ¬ (xs 1).toInt < (0 : Int) := fun h9 => cz9 (zi_lt.mpr h9)
      have z1 : ¬ (4 : Int) ≤ (xs 1).toInt := fun h9 => cz10 (zi_le.mpr h9)
      have z3 : (xs 1).toInt < (0 : Int) := by have h9 := zi_ltL.mp cz104; simp only [Int32.toInt_toInt64] at h9; exact h9
      omega
    · skip
      have z0 : ¬ (xs 1).toInt < (0 : Int) := fun h9 => cz9 (zi_lt.mpr h9)
      have z1 : ¬ (4 : Int) ≤ (xs 1).toInt := fun h9 => cz10 (zi_le.mpr h9)
      have z3 : ¬ (xs 1).toInt < (0 : Int) := by intro h9; apply cz105; rw [zi_ltL]; simp only [Int32.toInt_toInt64]; exact h9
      have z4 : (3 : Int) < (xs 1).toInt := by have h9 := zi_ltL.mp cz106; simp only [Int32.toInt_toInt64] at h9; exact h9
      omega
    · skip
      refine lv_icmp_eq (tgt := 2293) hx hb dL_law_2152 (by decide) (fun cz131 => ?_) (fun cz131 => ?_)
      · skip
        exact law_end (dC := dC) (dI := dI) (Nat.le_of_eq hL6) C0 A hAe (q 0) (r 0) H locs hS ls hl
      · skip
        exact absurd cz131 (by decide)
    · skip
      have z2 : (xs 2).toInt < (0 : Int) := zi_lt.mp cz11
      have z5 : ¬ (xs 2).toInt < (0 : Int) := by intro h9; apply cz112; rw [zi_ltL]; simp only [Int32.toInt_toInt64]; exact h9
      omega
    · skip
      have z2 : (xs 2).toInt < (0 : Int) := zi_lt.mp cz11
      have z5 : ¬ (xs 2).toInt < (0 : Int) := by intro h9; apply cz116; rw [zi_ltL]; simp only [Int32.toInt_toInt64]; exact h9
      omega
    · skip
      have z2 : (xs 2).toInt < (0 : Int) := zi_lt.mp cz11
      have z5 : ¬ (xs 2).toInt < (0 : Int) := by intro h9; apply cz122; rw [zi_ltL]; simp only [Int32.toInt_toInt64]; exact h9
      omega
    · skip
      have z2 : (xs 2).toInt < (0 : Int) := zi_lt.mp cz11
      have z5 : ¬ (xs 2).toInt < (0 : Int) := by intro h9; apply cz128; rw [zi_ltL]; simp only [Int32.toInt_toInt64]; exact h9
      omega
  · skip
    refine lv_aload_n hx hb dL_law_2133 rfl (lv_at hl 2 rfl) ?_
    refine lv_aload_n hx hb dL_law_2134 rfl (lv_at hl 0 rfl) ?_
    refine lv_iload_n hx hb dL_law_2135 rfl (lv_at hl 3 rfl) ?_
    refine lv_iconst (v := 1) hx hb dL_law_2136 (by decide) ?_
    refine lv_iadd hx hb dL_law_2137 ?_
    refine lv_topi (fun xz132 exz132 => ?_)
    obtain rfl : xz132 = 1 := exz132.trans (by decide)
    refine va_sld hx hb hX hbl hbA hS (by rw [hL6]; unfold vp_in; decide) dL_law_2138 ?_
    refine W.eq (g2 := F0 m 2139 ls [.int (xs 1), .ref (r 0), .int (-2)]) rfl ?_
    refine lv_aload_n hx hb dL_law_2139 rfl (lv_at hl 0 rfl) ?_
    refine lv_iload_n hx hb dL_law_2140 rfl (lv_at hl 3 rfl) ?_
    refine lv_iconst (v := 2) hx hb dL_law_2141 (by decide) ?_
    refine lv_iadd hx hb dL_law_2142 ?_
    refine lv_topi (fun xz133 exz133 => ?_)
    obtain rfl : xz133 = 2 := exz133.trans (by decide)
    refine va_sld hx hb hX hbl hbA hS (by rw [hL6]; unfold vp_in; decide) dL_law_2143 ?_
    refine W.eq (g2 := F0 m 2144 ls [.int (xs 2), .int (xs 1), .ref (r 0), .int (-2)]) rfl ?_
    refine lv_aload_n hx hb dL_law_2144 rfl (lv_at hl 0 rfl) ?_
    refine lv_iload_n hx hb dL_law_2145 rfl (lv_at hl 3 rfl) ?_
    refine lv_iconst (v := 3) hx hb dL_law_2146 (by decide) ?_
    refine lv_iadd hx hb dL_law_2147 ?_
    refine lv_topi (fun xz134 exz134 => ?_)
    obtain rfl : xz134 = 3 := exz134.trans (by decide)
    refine va_sld hx hb hX hbl hbA hS (by rw [hL6]; unfold vp_in; decide) dL_law_2148 ?_
    refine W.eq (g2 := F0 m 2149 ls [.int (xs 3), .int (xs 2), .int (xs 1), .ref (r 0), .int (-2)]) rfl ?_
    have hPc := hP.sub (ws' := [((r 0), .inr (12, [.int 0, .ref (r 1), .ref (r 2), .ref (r 3), .ref (r 4), .ref (r 5), .int 0, .int 0, .int 0, .int 0, .int 0, .long 0, .int 0, .int 0, .int 0, .int (-1), .ref (r 6), .ref (r 7), .ref (r 8), .ref (r 9), .ref (r 10), .ref (r 11), .ref (r 12), .ref (r 13), .int 0, .int 0, .int 0, .ref (r 14), .ref (r 15), .ref (r 16), .ref (r 17), .ref (r 18), .ref (r 19), .ref (r 20), .ref (r 21), .ref (r 22), .ref (r 23), .ref (r 24), .ref (r 25), .ref (r 26), .ref (r 27), .ref (r 28), .ref (r 29), .int 0, .int 0, .int 0, .ref (r 30), .int 0, .int 0, .int 0, .int 0, .int 0, .int 0, .ref (r 31), .int 0, .int 0, .int 0, .ref (r 32), .ref (r 33)])), ((r 1), .inl ((j 0), 4, .inl (upd (upd (upd (upd (fun _ => 0) 0 (-1)) 1 (-1)) 2 (-1)) 3 (-1)))), ((r 2), .inl ((j 1), 4, .inl (fun _ => 0))), ((r 3), .inl ((j 2), 240, .inr (.inl (fun _ => 0))))]) [0, 1, 2, 3] rfl
    have hKc := hK.sub (tys' := [((j 0), .int), ((j 1), .int), ((j 2), .long)]) [0, 1, 2] rfl
    have hDc := hD.sub (ws' := [((r 0), .inr (12, [.int 0, .ref (r 1), .ref (r 2), .ref (r 3), .ref (r 4), .ref (r 5), .int 0, .int 0, .int 0, .int 0, .int 0, .long 0, .int 0, .int 0, .int 0, .int (-1), .ref (r 6), .ref (r 7), .ref (r 8), .ref (r 9), .ref (r 10), .ref (r 11), .ref (r 12), .ref (r 13), .int 0, .int 0, .int 0, .ref (r 14), .ref (r 15), .ref (r 16), .ref (r 17), .ref (r 18), .ref (r 19), .ref (r 20), .ref (r 21), .ref (r 22), .ref (r 23), .ref (r 24), .ref (r 25), .ref (r 26), .ref (r 27), .ref (r 28), .ref (r 29), .int 0, .int 0, .int 0, .ref (r 30), .int 0, .int 0, .int 0, .int 0, .int 0, .int 0, .ref (r 31), .int 0, .int 0, .int 0, .ref (r 32), .ref (r 33)])), ((r 1), .inl ((j 0), 4, .inl (upd (upd (upd (upd (fun _ => 0) 0 (-1)) 1 (-1)) 2 (-1)) 3 (-1)))), ((r 2), .inl ((j 1), 4, .inl (fun _ => 0))), ((r 3), .inl ((j 2), 240, .inr (.inl (fun _ => 0))))]) [0, 1, 2, 3] (by decide) rfl
    have hFc := va_free (wc := [((r 0), .inr (12, [.int 0, .ref (r 1), .ref (r 2), .ref (r 3), .ref (r 4), .ref (r 5), .int 0, .int 0, .int 0, .int 0, .int 0, .long 0, .int 0, .int 0, .int 0, .int (-1), .ref (r 6), .ref (r 7), .ref (r 8), .ref (r 9), .ref (r 10), .ref (r 11), .ref (r 12), .ref (r 13), .int 0, .int 0, .int 0, .ref (r 14), .ref (r 15), .ref (r 16), .ref (r 17), .ref (r 18), .ref (r 19), .ref (r 20), .ref (r 21), .ref (r 22), .ref (r 23), .ref (r 24), .ref (r 25), .ref (r 26), .ref (r 27), .ref (r 28), .ref (r 29), .int 0, .int 0, .int 0, .ref (r 30), .int 0, .int 0, .int 0, .int 0, .int 0, .int 0, .ref (r 31), .int 0, .int 0, .int 0, .ref (r 32), .ref (r 33)])), ((r 1), .inl ((j 0), 4, .inl (upd (upd (upd (upd (fun _ => 0) 0 (-1)) 1 (-1)) 2 (-1)) 3 (-1)))), ((r 2), .inl ((j 1), 4, .inl (fun _ => 0))), ((r 3), .inl ((j 2), 240, .inr (.inl (fun _ => 0))))]) hD hS hA [0, 1, 2, 3] rfl
    refine va_calli (va_runV (As := [.int (xs 1), .int (xs 2), .int (xs 3)]) (rest := [.int (-2)]) ⟨hx, hb, hml, hown, hts⟩ (f_X12_row l dC dI H.size ((r 0)) ((r 1)) ((r 2)) ((r 3)) ((r 4)) ((r 5)) ((r 6)) ((r 7)) ((r 8)) ((r 9)) ((r 10)) ((r 11)) ((r 12)) ((r 13)) ((r 14)) ((r 15)) ((r 16)) ((r 17)) ((r 18)) ((r 19)) ((r 20)) ((r 21)) ((r 22)) ((r 23)) ((r 24)) ((r 25)) ((r 26)) ((r 27)) ((r 28)) ((r 29)) ((r 30)) ((r 31)) ((r 32)) ((r 33)) ((j 0)) ((j 1)) ((j 2)) ((xs 1)) ((xs 2)) ((xs 3))) (cwV 3 hts (gk_V tw_1115 tw_1116 tw_1117 tw_505 wki_f_X12_row wkg_f_X12_row) rfl rfl rfl (by decide +kernel) ⟨Nat.le_of_ble_eq_true rfl, Nat.le_of_ble_eq_true rfl⟩) ⟨fun a U g mk q => by obtain ⟨q0, q1, qP, qK, qD⟩ := q; exact ⟨q0, q1, qP, va_K.moved (u := U) (U := U.calling g mk a) (Vm.Alike.refl U.vm) qK, qD⟩, va_recv hKc hPc (ci := 12) (q0 := 0) rfl rfl, fun U hU hW => ⟨rfl, by rw [hU], by rw [hU]; exact hPc, va_K.moved hW.alike hKc, hDc.weaken (fun _ _ _ _ => trivial)⟩⟩ rfl rfl hl.1 rfl (lv_room (Nat.le_of_ble_eq_true rfl)) dL_law_2149 ⟨Nat.le_of_ble_eq_true rfl, Nat.le_of_ble_eq_true rfl⟩) hS (fun q _ h => hFc q h) hFc (fun oz136 u t H1 locs ht hvm gz135 hB hz1 hk1 hS => ?_)
    generalize H1 = H at hS ⊢
    refine W.widen (k := 305) (n := 4995) (Nat.le_of_ble_eq_true rfl) (Nat.le_of_ble_eq_true rfl) ?_
    rcases gz135 with ⟨rfl, cz137⟩ | ⟨rfl, cz138, cz139⟩ | ⟨rfl, cz140, cz141, cz142⟩ | ⟨rfl, cz143, cz144, cz145, cz146⟩ | ⟨rfl, cz147, cz148, cz149, cz150, cz151, cz152⟩ | ⟨rfl, cz153, cz154, cz155, cz156, cz157, cz158⟩ | ⟨rfl, cz159, cz160, cz161, cz162, cz163⟩
    · skip
      have z0 : ¬ (xs 1).toInt < (0 : Int) := fun h9 => cz12 (zi_lt.mpr h9)
      have z1 : ¬ (4 : Int) ≤ (xs 1).toInt := fun h9 => cz13 (zi_le.mpr h9)
      have z4 : (xs 1).toInt < (0 : Int) := by have h9 := zi_ltL.mp cz137; simp only [Int32.toInt_toInt64] at h9; exact h9
      omega
    · skip
      have z0 : ¬ (xs 1).toInt < (0 : Int) := fun h9 => cz12 (zi_lt.mpr h9)
      have z1 : ¬ (4 : Int) ≤ (xs 1).toInt := fun h9 => cz13 (zi_le.mpr h9)
      have z4 : ¬ (xs 1).toInt < (0 : Int) := by intro h9; apply cz138; rw [zi_ltL]; simp only [Int32.toInt_toInt64]; exact h9
      have z5 : (3 : Int) < (xs 1).toInt := by have h9 := zi_ltL.mp cz139; simp only [Int32.toInt_toInt64] at h9; exact h9
      omega
    · skip
      have z2 : ¬ (xs 2).toInt < (0 : Int) := fun h9 => cz14 (zi_lt.mpr h9)
      have z3 : (4 : Int) ≤ (xs 2).toInt := zi_le.mp cz15
      have z6 : (xs 2).toInt < (0 : Int) := by have h9 := zi_ltL.mp cz142; simp only [Int32.toInt_toInt64] at h9; exact h9
      omega
    · skip
      refine lv_icmp_eq (tgt := 2293) hx hb dL_law_2152 (by decide) (fun cz164 => ?_) (fun cz164 => ?_)
      · skip
        exact law_end (dC := dC) (dI := dI) (Nat.le_of_eq hL6) C0 A hAe (q 0) (r 0) H locs hS ls hl
      · skip
        exact absurd cz164 (by decide)
    · skip
      have z2 : ¬ (xs 2).toInt < (0 : Int) := fun h9 => cz14 (zi_lt.mpr h9)
      have z3 : (4 : Int) ≤ (xs 2).toInt := zi_le.mp cz15
      have z6 : ¬ (xs 2).toInt < (0 : Int) := by intro h9; apply cz149; rw [zi_ltL]; simp only [Int32.toInt_toInt64]; exact h9
      have z7 : ¬ (3 : Int) < (xs 2).toInt := by intro h9; apply cz150; rw [zi_ltL]; simp only [Int32.toInt_toInt64]; exact h9
      omega
    · skip
      have z2 : ¬ (xs 2).toInt < (0 : Int) := fun h9 => cz14 (zi_lt.mpr h9)
      have z3 : (4 : Int) ≤ (xs 2).toInt := zi_le.mp cz15
      have z6 : ¬ (xs 2).toInt < (0 : Int) := by intro h9; apply cz155; rw [zi_ltL]; simp only [Int32.toInt_toInt64]; exact h9
      have z7 : ¬ (3 : Int) < (xs 2).toInt := by intro h9; apply cz156; rw [zi_ltL]; simp only [Int32.toInt_toInt64]; exact h9
      omega
    · skip
      have z2 : ¬ (xs 2).toInt < (0 : Int) := fun h9 => cz14 (zi_lt.mpr h9)
      have z3 : (4 : Int) ≤ (xs 2).toInt := zi_le.mp cz15
      have z6 : ¬ (xs 2).toInt < (0 : Int) := by intro h9; apply cz161; rw [zi_ltL]; simp only [Int32.toInt_toInt64]; exact h9
      have z7 : ¬ (3 : Int) < (xs 2).toInt := by intro h9; apply cz162; rw [zi_ltL]; simp only [Int32.toInt_toInt64]; exact h9
      omega
  · skip
    refine lv_aload_n hx hb dL_law_2133 rfl (lv_at hl 2 rfl) ?_
    refine lv_aload_n hx hb dL_law_2134 rfl (lv_at hl 0 rfl) ?_
    refine lv_iload_n hx hb dL_law_2135 rfl (lv_at hl 3 rfl) ?_
    refine lv_iconst (v := 1) hx hb dL_law_2136 (by decide) ?_
    refine lv_iadd hx hb dL_law_2137 ?_
    refine lv_topi (fun xz165 exz165 => ?_)
    obtain rfl : xz165 = 1 := exz165.trans (by decide)
    refine va_sld hx hb hX hbl hbA hS (by rw [hL6]; unfold vp_in; decide) dL_law_2138 ?_
    refine W.eq (g2 := F0 m 2139 ls [.int (xs 1), .ref (r 0), .int 0]) rfl ?_
    refine lv_aload_n hx hb dL_law_2139 rfl (lv_at hl 0 rfl) ?_
    refine lv_iload_n hx hb dL_law_2140 rfl (lv_at hl 3 rfl) ?_
    refine lv_iconst (v := 2) hx hb dL_law_2141 (by decide) ?_
    refine lv_iadd hx hb dL_law_2142 ?_
    refine lv_topi (fun xz166 exz166 => ?_)
    obtain rfl : xz166 = 2 := exz166.trans (by decide)
    refine va_sld hx hb hX hbl hbA hS (by rw [hL6]; unfold vp_in; decide) dL_law_2143 ?_
    refine W.eq (g2 := F0 m 2144 ls [.int (xs 2), .int (xs 1), .ref (r 0), .int 0]) rfl ?_
    refine lv_aload_n hx hb dL_law_2144 rfl (lv_at hl 0 rfl) ?_
    refine lv_iload_n hx hb dL_law_2145 rfl (lv_at hl 3 rfl) ?_
    refine lv_iconst (v := 3) hx hb dL_law_2146 (by decide) ?_
    refine lv_iadd hx hb dL_law_2147 ?_
    refine lv_topi (fun xz167 exz167 => ?_)
    obtain rfl : xz167 = 3 := exz167.trans (by decide)
    refine va_sld hx hb hX hbl hbA hS (by rw [hL6]; unfold vp_in; decide) dL_law_2148 ?_
    refine W.eq (g2 := F0 m 2149 ls [.int (xs 3), .int (xs 2), .int (xs 1), .ref (r 0), .int 0]) rfl ?_
    have hPc := hP.sub (ws' := [((r 0), .inr (12, [.int 0, .ref (r 1), .ref (r 2), .ref (r 3), .ref (r 4), .ref (r 5), .int 0, .int 0, .int 0, .int 0, .int 0, .long 0, .int 0, .int 0, .int 0, .int (-1), .ref (r 6), .ref (r 7), .ref (r 8), .ref (r 9), .ref (r 10), .ref (r 11), .ref (r 12), .ref (r 13), .int 0, .int 0, .int 0, .ref (r 14), .ref (r 15), .ref (r 16), .ref (r 17), .ref (r 18), .ref (r 19), .ref (r 20), .ref (r 21), .ref (r 22), .ref (r 23), .ref (r 24), .ref (r 25), .ref (r 26), .ref (r 27), .ref (r 28), .ref (r 29), .int 0, .int 0, .int 0, .ref (r 30), .int 0, .int 0, .int 0, .int 0, .int 0, .int 0, .ref (r 31), .int 0, .int 0, .int 0, .ref (r 32), .ref (r 33)])), ((r 1), .inl ((j 0), 4, .inl (upd (upd (upd (upd (fun _ => 0) 0 (-1)) 1 (-1)) 2 (-1)) 3 (-1)))), ((r 2), .inl ((j 1), 4, .inl (fun _ => 0))), ((r 3), .inl ((j 2), 240, .inr (.inl (fun _ => 0))))]) [0, 1, 2, 3] rfl
    have hKc := hK.sub (tys' := [((j 0), .int), ((j 1), .int), ((j 2), .long)]) [0, 1, 2] rfl
    have hDc := hD.sub (ws' := [((r 0), .inr (12, [.int 0, .ref (r 1), .ref (r 2), .ref (r 3), .ref (r 4), .ref (r 5), .int 0, .int 0, .int 0, .int 0, .int 0, .long 0, .int 0, .int 0, .int 0, .int (-1), .ref (r 6), .ref (r 7), .ref (r 8), .ref (r 9), .ref (r 10), .ref (r 11), .ref (r 12), .ref (r 13), .int 0, .int 0, .int 0, .ref (r 14), .ref (r 15), .ref (r 16), .ref (r 17), .ref (r 18), .ref (r 19), .ref (r 20), .ref (r 21), .ref (r 22), .ref (r 23), .ref (r 24), .ref (r 25), .ref (r 26), .ref (r 27), .ref (r 28), .ref (r 29), .int 0, .int 0, .int 0, .ref (r 30), .int 0, .int 0, .int 0, .int 0, .int 0, .int 0, .ref (r 31), .int 0, .int 0, .int 0, .ref (r 32), .ref (r 33)])), ((r 1), .inl ((j 0), 4, .inl (upd (upd (upd (upd (fun _ => 0) 0 (-1)) 1 (-1)) 2 (-1)) 3 (-1)))), ((r 2), .inl ((j 1), 4, .inl (fun _ => 0))), ((r 3), .inl ((j 2), 240, .inr (.inl (fun _ => 0))))]) [0, 1, 2, 3] (by decide) rfl
    have hFc := va_free (wc := [((r 0), .inr (12, [.int 0, .ref (r 1), .ref (r 2), .ref (r 3), .ref (r 4), .ref (r 5), .int 0, .int 0, .int 0, .int 0, .int 0, .long 0, .int 0, .int 0, .int 0, .int (-1), .ref (r 6), .ref (r 7), .ref (r 8), .ref (r 9), .ref (r 10), .ref (r 11), .ref (r 12), .ref (r 13), .int 0, .int 0, .int 0, .ref (r 14), .ref (r 15), .ref (r 16), .ref (r 17), .ref (r 18), .ref (r 19), .ref (r 20), .ref (r 21), .ref (r 22), .ref (r 23), .ref (r 24), .ref (r 25), .ref (r 26), .ref (r 27), .ref (r 28), .ref (r 29), .int 0, .int 0, .int 0, .ref (r 30), .int 0, .int 0, .int 0, .int 0, .int 0, .int 0, .ref (r 31), .int 0, .int 0, .int 0, .ref (r 32), .ref (r 33)])), ((r 1), .inl ((j 0), 4, .inl (upd (upd (upd (upd (fun _ => 0) 0 (-1)) 1 (-1)) 2 (-1)) 3 (-1)))), ((r 2), .inl ((j 1), 4, .inl (fun _ => 0))), ((r 3), .inl ((j 2), 240, .inr (.inl (fun _ => 0))))]) hD hS hA [0, 1, 2, 3] rfl
    refine va_calli (va_runV (As := [.int (xs 1), .int (xs 2), .int (xs 3)]) (rest := [.int 0]) ⟨hx, hb, hml, hown, hts⟩ (f_X12_row l dC dI H.size ((r 0)) ((r 1)) ((r 2)) ((r 3)) ((r 4)) ((r 5)) ((r 6)) ((r 7)) ((r 8)) ((r 9)) ((r 10)) ((r 11)) ((r 12)) ((r 13)) ((r 14)) ((r 15)) ((r 16)) ((r 17)) ((r 18)) ((r 19)) ((r 20)) ((r 21)) ((r 22)) ((r 23)) ((r 24)) ((r 25)) ((r 26)) ((r 27)) ((r 28)) ((r 29)) ((r 30)) ((r 31)) ((r 32)) ((r 33)) ((j 0)) ((j 1)) ((j 2)) ((xs 1)) ((xs 2)) ((xs 3))) (cwV 3 hts (gk_V tw_1115 tw_1116 tw_1117 tw_505 wki_f_X12_row wkg_f_X12_row) rfl rfl rfl (by decide +kernel) ⟨Nat.le_of_ble_eq_true rfl, Nat.le_of_ble_eq_true rfl⟩) ⟨fun a U g mk q => by obtain ⟨q0, q1, qP, qK, qD⟩ := q; exact ⟨q0, q1, qP, va_K.moved (u := U) (U := U.calling g mk a) (Vm.Alike.refl U.vm) qK, qD⟩, va_recv hKc hPc (ci := 12) (q0 := 0) rfl rfl, fun U hU hW => ⟨rfl, by rw [hU], by rw [hU]; exact hPc, va_K.moved hW.alike hKc, hDc.weaken (fun _ _ _ _ => trivial)⟩⟩ rfl rfl hl.1 rfl (lv_room (Nat.le_of_ble_eq_true rfl)) dL_law_2149 ⟨Nat.le_of_ble_eq_true rfl, Nat.le_of_ble_eq_true rfl⟩) hS (fun q _ h => hFc q h) hFc (fun oz169 u t H1 locs ht hvm gz168 hB hz1 hk1 hS => ?_)
    generalize H1 = H at hS ⊢
    refine W.widen (k := 305) (n := 4995) (Nat.le_of_ble_eq_true rfl) (Nat.le_of_ble_eq_true rfl) ?_
    rcases gz168 with ⟨rfl, cz170⟩ | ⟨rfl, cz171, cz172⟩ | ⟨rfl, cz173, cz174, cz175⟩ | ⟨rfl, cz176, cz177, cz178, cz179⟩ | ⟨rfl, cz180, cz181, cz182, cz183, cz184, cz185⟩ | ⟨rfl, cz186, cz187, cz188, cz189, cz190, cz191⟩ | ⟨rfl, cz192, cz193, cz194, cz195, cz196⟩
    · skip
      have z0 : ¬ (xs 1).toInt < (0 : Int) := fun h9 => cz16 (zi_lt.mpr h9)
      have z1 : ¬ (4 : Int) ≤ (xs 1).toInt := fun h9 => cz17 (zi_le.mpr h9)
      have z6 : (xs 1).toInt < (0 : Int) := by have h9 := zi_ltL.mp cz170; simp only [Int32.toInt_toInt64] at h9; exact h9
      omega
    · skip
      have z0 : ¬ (xs 1).toInt < (0 : Int) := fun h9 => cz16 (zi_lt.mpr h9)
      have z1 : ¬ (4 : Int) ≤ (xs 1).toInt := fun h9 => cz17 (zi_le.mpr h9)
      have z6 : ¬ (xs 1).toInt < (0 : Int) := by intro h9; apply cz171; rw [zi_ltL]; simp only [Int32.toInt_toInt64]; exact h9
      have z7 : (3 : Int) < (xs 1).toInt := by have h9 := zi_ltL.mp cz172; simp only [Int32.toInt_toInt64] at h9; exact h9
      omega
    · skip
      have z2 : ¬ (xs 2).toInt < (0 : Int) := fun h9 => cz18 (zi_lt.mpr h9)
      have z3 : ¬ (4 : Int) ≤ (xs 2).toInt := fun h9 => cz19 (zi_le.mpr h9)
      have z8 : (xs 2).toInt < (0 : Int) := by have h9 := zi_ltL.mp cz175; simp only [Int32.toInt_toInt64] at h9; exact h9
      omega
    · skip
      have z2 : ¬ (xs 2).toInt < (0 : Int) := fun h9 => cz18 (zi_lt.mpr h9)
      have z3 : ¬ (4 : Int) ≤ (xs 2).toInt := fun h9 => cz19 (zi_le.mpr h9)
      have z8 : ¬ (xs 2).toInt < (0 : Int) := by intro h9; apply cz178; rw [zi_ltL]; simp only [Int32.toInt_toInt64]; exact h9
      have z9 : (3 : Int) < (xs 2).toInt := by have h9 := zi_ltL.mp cz179; simp only [Int32.toInt_toInt64] at h9; exact h9
      omega
    · skip
      refine lv_icmp_eq (tgt := 2293) hx hb dL_law_2152 (by decide) (fun cz197 => ?_) (fun cz197 => ?_)
      · skip
        exact law_end (dC := dC) (dI := dI) (Nat.le_of_eq hL6) C0 A hAe (q 0) (r 0) H locs hS ls hl
      · skip
        exact absurd cz197 (by decide)
    · skip
      have z4 : (xs 3).toInt ≤ (60 : Int) := zi_le.mp cz20
      have z5 : (0 : Int) ≤ (xs 3).toInt := zi_le.mp cz21
      have z10 : (xs 3).toInt ≤ (60 : Int) := zi_le.mp cz190
      have z11 : ¬ (0 : Int) ≤ (xs 3).toInt := fun h9 => cz191 (zi_le.mpr h9)
      omega
    · skip
      have z4 : (xs 3).toInt ≤ (60 : Int) := zi_le.mp cz20
      have z5 : (0 : Int) ≤ (xs 3).toInt := zi_le.mp cz21
      have z10 : ¬ (xs 3).toInt ≤ (60 : Int) := fun h9 => cz196 (zi_le.mpr h9)
      omega
  · skip
    refine lv_aload_n hx hb dL_law_2133 rfl (lv_at hl 2 rfl) ?_
    refine lv_aload_n hx hb dL_law_2134 rfl (lv_at hl 0 rfl) ?_
    refine lv_iload_n hx hb dL_law_2135 rfl (lv_at hl 3 rfl) ?_
    refine lv_iconst (v := 1) hx hb dL_law_2136 (by decide) ?_
    refine lv_iadd hx hb dL_law_2137 ?_
    refine lv_topi (fun xz198 exz198 => ?_)
    obtain rfl : xz198 = 1 := exz198.trans (by decide)
    refine va_sld hx hb hX hbl hbA hS (by rw [hL6]; unfold vp_in; decide) dL_law_2138 ?_
    refine W.eq (g2 := F0 m 2139 ls [.int (xs 1), .ref (r 0), .int (-3)]) rfl ?_
    refine lv_aload_n hx hb dL_law_2139 rfl (lv_at hl 0 rfl) ?_
    refine lv_iload_n hx hb dL_law_2140 rfl (lv_at hl 3 rfl) ?_
    refine lv_iconst (v := 2) hx hb dL_law_2141 (by decide) ?_
    refine lv_iadd hx hb dL_law_2142 ?_
    refine lv_topi (fun xz199 exz199 => ?_)
    obtain rfl : xz199 = 2 := exz199.trans (by decide)
    refine va_sld hx hb hX hbl hbA hS (by rw [hL6]; unfold vp_in; decide) dL_law_2143 ?_
    refine W.eq (g2 := F0 m 2144 ls [.int (xs 2), .int (xs 1), .ref (r 0), .int (-3)]) rfl ?_
    refine lv_aload_n hx hb dL_law_2144 rfl (lv_at hl 0 rfl) ?_
    refine lv_iload_n hx hb dL_law_2145 rfl (lv_at hl 3 rfl) ?_
    refine lv_iconst (v := 3) hx hb dL_law_2146 (by decide) ?_
    refine lv_iadd hx hb dL_law_2147 ?_
    refine lv_topi (fun xz200 exz200 => ?_)
    obtain rfl : xz200 = 3 := exz200.trans (by decide)
    refine va_sld hx hb hX hbl hbA hS (by rw [hL6]; unfold vp_in; decide) dL_law_2148 ?_
    refine W.eq (g2 := F0 m 2149 ls [.int (xs 3), .int (xs 2), .int (xs 1), .ref (r 0), .int (-3)]) rfl ?_
    have hPc := hP.sub (ws' := [((r 0), .inr (12, [.int 0, .ref (r 1), .ref (r 2), .ref (r 3), .ref (r 4), .ref (r 5), .int 0, .int 0, .int 0, .int 0, .int 0, .long 0, .int 0, .int 0, .int 0, .int (-1), .ref (r 6), .ref (r 7), .ref (r 8), .ref (r 9), .ref (r 10), .ref (r 11), .ref (r 12), .ref (r 13), .int 0, .int 0, .int 0, .ref (r 14), .ref (r 15), .ref (r 16), .ref (r 17), .ref (r 18), .ref (r 19), .ref (r 20), .ref (r 21), .ref (r 22), .ref (r 23), .ref (r 24), .ref (r 25), .ref (r 26), .ref (r 27), .ref (r 28), .ref (r 29), .int 0, .int 0, .int 0, .ref (r 30), .int 0, .int 0, .int 0, .int 0, .int 0, .int 0, .ref (r 31), .int 0, .int 0, .int 0, .ref (r 32), .ref (r 33)])), ((r 1), .inl ((j 0), 4, .inl (upd (upd (upd (upd (fun _ => 0) 0 (-1)) 1 (-1)) 2 (-1)) 3 (-1)))), ((r 2), .inl ((j 1), 4, .inl (fun _ => 0))), ((r 3), .inl ((j 2), 240, .inr (.inl (fun _ => 0))))]) [0, 1, 2, 3] rfl
    have hKc := hK.sub (tys' := [((j 0), .int), ((j 1), .int), ((j 2), .long)]) [0, 1, 2] rfl
    have hDc := hD.sub (ws' := [((r 0), .inr (12, [.int 0, .ref (r 1), .ref (r 2), .ref (r 3), .ref (r 4), .ref (r 5), .int 0, .int 0, .int 0, .int 0, .int 0, .long 0, .int 0, .int 0, .int 0, .int (-1), .ref (r 6), .ref (r 7), .ref (r 8), .ref (r 9), .ref (r 10), .ref (r 11), .ref (r 12), .ref (r 13), .int 0, .int 0, .int 0, .ref (r 14), .ref (r 15), .ref (r 16), .ref (r 17), .ref (r 18), .ref (r 19), .ref (r 20), .ref (r 21), .ref (r 22), .ref (r 23), .ref (r 24), .ref (r 25), .ref (r 26), .ref (r 27), .ref (r 28), .ref (r 29), .int 0, .int 0, .int 0, .ref (r 30), .int 0, .int 0, .int 0, .int 0, .int 0, .int 0, .ref (r 31), .int 0, .int 0, .int 0, .ref (r 32), .ref (r 33)])), ((r 1), .inl ((j 0), 4, .inl (upd (upd (upd (upd (fun _ => 0) 0 (-1)) 1 (-1)) 2 (-1)) 3 (-1)))), ((r 2), .inl ((j 1), 4, .inl (fun _ => 0))), ((r 3), .inl ((j 2), 240, .inr (.inl (fun _ => 0))))]) [0, 1, 2, 3] (by decide) rfl
    have hFc := va_free (wc := [((r 0), .inr (12, [.int 0, .ref (r 1), .ref (r 2), .ref (r 3), .ref (r 4), .ref (r 5), .int 0, .int 0, .int 0, .int 0, .int 0, .long 0, .int 0, .int 0, .int 0, .int (-1), .ref (r 6), .ref (r 7), .ref (r 8), .ref (r 9), .ref (r 10), .ref (r 11), .ref (r 12), .ref (r 13), .int 0, .int 0, .int 0, .ref (r 14), .ref (r 15), .ref (r 16), .ref (r 17), .ref (r 18), .ref (r 19), .ref (r 20), .ref (r 21), .ref (r 22), .ref (r 23), .ref (r 24), .ref (r 25), .ref (r 26), .ref (r 27), .ref (r 28), .ref (r 29), .int 0, .int 0, .int 0, .ref (r 30), .int 0, .int 0, .int 0, .int 0, .int 0, .int 0, .ref (r 31), .int 0, .int 0, .int 0, .ref (r 32), .ref (r 33)])), ((r 1), .inl ((j 0), 4, .inl (upd (upd (upd (upd (fun _ => 0) 0 (-1)) 1 (-1)) 2 (-1)) 3 (-1)))), ((r 2), .inl ((j 1), 4, .inl (fun _ => 0))), ((r 3), .inl ((j 2), 240, .inr (.inl (fun _ => 0))))]) hD hS hA [0, 1, 2, 3] rfl
    refine va_calli (va_runV (As := [.int (xs 1), .int (xs 2), .int (xs 3)]) (rest := [.int (-3)]) ⟨hx, hb, hml, hown, hts⟩ (f_X12_row l dC dI H.size ((r 0)) ((r 1)) ((r 2)) ((r 3)) ((r 4)) ((r 5)) ((r 6)) ((r 7)) ((r 8)) ((r 9)) ((r 10)) ((r 11)) ((r 12)) ((r 13)) ((r 14)) ((r 15)) ((r 16)) ((r 17)) ((r 18)) ((r 19)) ((r 20)) ((r 21)) ((r 22)) ((r 23)) ((r 24)) ((r 25)) ((r 26)) ((r 27)) ((r 28)) ((r 29)) ((r 30)) ((r 31)) ((r 32)) ((r 33)) ((j 0)) ((j 1)) ((j 2)) ((xs 1)) ((xs 2)) ((xs 3))) (cwV 3 hts (gk_V tw_1115 tw_1116 tw_1117 tw_505 wki_f_X12_row wkg_f_X12_row) rfl rfl rfl (by decide +kernel) ⟨Nat.le_of_ble_eq_true rfl, Nat.le_of_ble_eq_true rfl⟩) ⟨fun a U g mk q => by obtain ⟨q0, q1, qP, qK, qD⟩ := q; exact ⟨q0, q1, qP, va_K.moved (u := U) (U := U.calling g mk a) (Vm.Alike.refl U.vm) qK, qD⟩, va_recv hKc hPc (ci := 12) (q0 := 0) rfl rfl, fun U hU hW => ⟨rfl, by rw [hU], by rw [hU]; exact hPc, va_K.moved hW.alike hKc, hDc.weaken (fun _ _ _ _ => trivial)⟩⟩ rfl rfl hl.1 rfl (lv_room (Nat.le_of_ble_eq_true rfl)) dL_law_2149 ⟨Nat.le_of_ble_eq_true rfl, Nat.le_of_ble_eq_true rfl⟩) hS (fun q _ h => hFc q h) hFc (fun oz202 u t H1 locs ht hvm gz201 hB hz1 hk1 hS => ?_)
    generalize H1 = H at hS ⊢
    refine W.widen (k := 305) (n := 4995) (Nat.le_of_ble_eq_true rfl) (Nat.le_of_ble_eq_true rfl) ?_
    rcases gz201 with ⟨rfl, cz203⟩ | ⟨rfl, cz204, cz205⟩ | ⟨rfl, cz206, cz207, cz208⟩ | ⟨rfl, cz209, cz210, cz211, cz212⟩ | ⟨rfl, cz213, cz214, cz215, cz216, cz217, cz218⟩ | ⟨rfl, cz219, cz220, cz221, cz222, cz223, cz224⟩ | ⟨rfl, cz225, cz226, cz227, cz228, cz229⟩
    · skip
      have z0 : ¬ (xs 1).toInt < (0 : Int) := fun h9 => cz22 (zi_lt.mpr h9)
      have z1 : ¬ (4 : Int) ≤ (xs 1).toInt := fun h9 => cz23 (zi_le.mpr h9)
      have z6 : (xs 1).toInt < (0 : Int) := by have h9 := zi_ltL.mp cz203; simp only [Int32.toInt_toInt64] at h9; exact h9
      omega
    · skip
      have z0 : ¬ (xs 1).toInt < (0 : Int) := fun h9 => cz22 (zi_lt.mpr h9)
      have z1 : ¬ (4 : Int) ≤ (xs 1).toInt := fun h9 => cz23 (zi_le.mpr h9)
      have z6 : ¬ (xs 1).toInt < (0 : Int) := by intro h9; apply cz204; rw [zi_ltL]; simp only [Int32.toInt_toInt64]; exact h9
      have z7 : (3 : Int) < (xs 1).toInt := by have h9 := zi_ltL.mp cz205; simp only [Int32.toInt_toInt64] at h9; exact h9
      omega
    · skip
      have z2 : ¬ (xs 2).toInt < (0 : Int) := fun h9 => cz24 (zi_lt.mpr h9)
      have z3 : ¬ (4 : Int) ≤ (xs 2).toInt := fun h9 => cz25 (zi_le.mpr h9)
      have z8 : (xs 2).toInt < (0 : Int) := by have h9 := zi_ltL.mp cz208; simp only [Int32.toInt_toInt64] at h9; exact h9
      omega
    · skip
      have z2 : ¬ (xs 2).toInt < (0 : Int) := fun h9 => cz24 (zi_lt.mpr h9)
      have z3 : ¬ (4 : Int) ≤ (xs 2).toInt := fun h9 => cz25 (zi_le.mpr h9)
      have z8 : ¬ (xs 2).toInt < (0 : Int) := by intro h9; apply cz211; rw [zi_ltL]; simp only [Int32.toInt_toInt64]; exact h9
      have z9 : (3 : Int) < (xs 2).toInt := by have h9 := zi_ltL.mp cz212; simp only [Int32.toInt_toInt64] at h9; exact h9
      omega
    · skip
      have z4 : (xs 3).toInt ≤ (60 : Int) := zi_le.mp cz26
      have z5 : ¬ (0 : Int) ≤ (xs 3).toInt := fun h9 => cz27 (zi_le.mpr h9)
      have z10 : (xs 3).toInt ≤ (60 : Int) := zi_le.mp cz217
      have z11 : (0 : Int) ≤ (xs 3).toInt := zi_le.mp cz218
      omega
    · skip
      refine lv_icmp_eq (tgt := 2293) hx hb dL_law_2152 (by decide) (fun cz230 => ?_) (fun cz230 => ?_)
      · skip
        exact law_end (dC := dC) (dI := dI) (Nat.le_of_eq hL6) C0 A hAe (q 0) (r 0) H locs hS ls hl
      · skip
        exact absurd cz230 (by decide)
    · skip
      have z4 : (xs 3).toInt ≤ (60 : Int) := zi_le.mp cz26
      have z5 : ¬ (0 : Int) ≤ (xs 3).toInt := fun h9 => cz27 (zi_le.mpr h9)
      have z10 : ¬ (xs 3).toInt ≤ (60 : Int) := fun h9 => cz229 (zi_le.mpr h9)
      omega
  · skip
    refine lv_aload_n hx hb dL_law_2133 rfl (lv_at hl 2 rfl) ?_
    refine lv_aload_n hx hb dL_law_2134 rfl (lv_at hl 0 rfl) ?_
    refine lv_iload_n hx hb dL_law_2135 rfl (lv_at hl 3 rfl) ?_
    refine lv_iconst (v := 1) hx hb dL_law_2136 (by decide) ?_
    refine lv_iadd hx hb dL_law_2137 ?_
    refine lv_topi (fun xz231 exz231 => ?_)
    obtain rfl : xz231 = 1 := exz231.trans (by decide)
    refine va_sld hx hb hX hbl hbA hS (by rw [hL6]; unfold vp_in; decide) dL_law_2138 ?_
    refine W.eq (g2 := F0 m 2139 ls [.int (xs 1), .ref (r 0), .int (-2)]) rfl ?_
    refine lv_aload_n hx hb dL_law_2139 rfl (lv_at hl 0 rfl) ?_
    refine lv_iload_n hx hb dL_law_2140 rfl (lv_at hl 3 rfl) ?_
    refine lv_iconst (v := 2) hx hb dL_law_2141 (by decide) ?_
    refine lv_iadd hx hb dL_law_2142 ?_
    refine lv_topi (fun xz232 exz232 => ?_)
    obtain rfl : xz232 = 2 := exz232.trans (by decide)
    refine va_sld hx hb hX hbl hbA hS (by rw [hL6]; unfold vp_in; decide) dL_law_2143 ?_
    refine W.eq (g2 := F0 m 2144 ls [.int (xs 2), .int (xs 1), .ref (r 0), .int (-2)]) rfl ?_
    refine lv_aload_n hx hb dL_law_2144 rfl (lv_at hl 0 rfl) ?_
    refine lv_iload_n hx hb dL_law_2145 rfl (lv_at hl 3 rfl) ?_
    refine lv_iconst (v := 3) hx hb dL_law_2146 (by decide) ?_
    refine lv_iadd hx hb dL_law_2147 ?_
    refine lv_topi (fun xz233 exz233 => ?_)
    obtain rfl : xz233 = 3 := exz233.trans (by decide)
    refine va_sld hx hb hX hbl hbA hS (by rw [hL6]; unfold vp_in; decide) dL_law_2148 ?_
    refine W.eq (g2 := F0 m 2149 ls [.int (xs 3), .int (xs 2), .int (xs 1), .ref (r 0), .int (-2)]) rfl ?_
    have hPc := hP.sub (ws' := [((r 0), .inr (12, [.int 0, .ref (r 1), .ref (r 2), .ref (r 3), .ref (r 4), .ref (r 5), .int 0, .int 0, .int 0, .int 0, .int 0, .long 0, .int 0, .int 0, .int 0, .int (-1), .ref (r 6), .ref (r 7), .ref (r 8), .ref (r 9), .ref (r 10), .ref (r 11), .ref (r 12), .ref (r 13), .int 0, .int 0, .int 0, .ref (r 14), .ref (r 15), .ref (r 16), .ref (r 17), .ref (r 18), .ref (r 19), .ref (r 20), .ref (r 21), .ref (r 22), .ref (r 23), .ref (r 24), .ref (r 25), .ref (r 26), .ref (r 27), .ref (r 28), .ref (r 29), .int 0, .int 0, .int 0, .ref (r 30), .int 0, .int 0, .int 0, .int 0, .int 0, .int 0, .ref (r 31), .int 0, .int 0, .int 0, .ref (r 32), .ref (r 33)])), ((r 1), .inl ((j 0), 4, .inl (upd (upd (upd (upd (fun _ => 0) 0 (-1)) 1 (-1)) 2 (-1)) 3 (-1)))), ((r 2), .inl ((j 1), 4, .inl (fun _ => 0))), ((r 3), .inl ((j 2), 240, .inr (.inl (fun _ => 0))))]) [0, 1, 2, 3] rfl
    have hKc := hK.sub (tys' := [((j 0), .int), ((j 1), .int), ((j 2), .long)]) [0, 1, 2] rfl
    have hDc := hD.sub (ws' := [((r 0), .inr (12, [.int 0, .ref (r 1), .ref (r 2), .ref (r 3), .ref (r 4), .ref (r 5), .int 0, .int 0, .int 0, .int 0, .int 0, .long 0, .int 0, .int 0, .int 0, .int (-1), .ref (r 6), .ref (r 7), .ref (r 8), .ref (r 9), .ref (r 10), .ref (r 11), .ref (r 12), .ref (r 13), .int 0, .int 0, .int 0, .ref (r 14), .ref (r 15), .ref (r 16), .ref (r 17), .ref (r 18), .ref (r 19), .ref (r 20), .ref (r 21), .ref (r 22), .ref (r 23), .ref (r 24), .ref (r 25), .ref (r 26), .ref (r 27), .ref (r 28), .ref (r 29), .int 0, .int 0, .int 0, .ref (r 30), .int 0, .int 0, .int 0, .int 0, .int 0, .int 0, .ref (r 31), .int 0, .int 0, .int 0, .ref (r 32), .ref (r 33)])), ((r 1), .inl ((j 0), 4, .inl (upd (upd (upd (upd (fun _ => 0) 0 (-1)) 1 (-1)) 2 (-1)) 3 (-1)))), ((r 2), .inl ((j 1), 4, .inl (fun _ => 0))), ((r 3), .inl ((j 2), 240, .inr (.inl (fun _ => 0))))]) [0, 1, 2, 3] (by decide) rfl
    have hFc := va_free (wc := [((r 0), .inr (12, [.int 0, .ref (r 1), .ref (r 2), .ref (r 3), .ref (r 4), .ref (r 5), .int 0, .int 0, .int 0, .int 0, .int 0, .long 0, .int 0, .int 0, .int 0, .int (-1), .ref (r 6), .ref (r 7), .ref (r 8), .ref (r 9), .ref (r 10), .ref (r 11), .ref (r 12), .ref (r 13), .int 0, .int 0, .int 0, .ref (r 14), .ref (r 15), .ref (r 16), .ref (r 17), .ref (r 18), .ref (r 19), .ref (r 20), .ref (r 21), .ref (r 22), .ref (r 23), .ref (r 24), .ref (r 25), .ref (r 26), .ref (r 27), .ref (r 28), .ref (r 29), .int 0, .int 0, .int 0, .ref (r 30), .int 0, .int 0, .int 0, .int 0, .int 0, .int 0, .ref (r 31), .int 0, .int 0, .int 0, .ref (r 32), .ref (r 33)])), ((r 1), .inl ((j 0), 4, .inl (upd (upd (upd (upd (fun _ => 0) 0 (-1)) 1 (-1)) 2 (-1)) 3 (-1)))), ((r 2), .inl ((j 1), 4, .inl (fun _ => 0))), ((r 3), .inl ((j 2), 240, .inr (.inl (fun _ => 0))))]) hD hS hA [0, 1, 2, 3] rfl
    refine va_calli (va_runV (As := [.int (xs 1), .int (xs 2), .int (xs 3)]) (rest := [.int (-2)]) ⟨hx, hb, hml, hown, hts⟩ (f_X12_row l dC dI H.size ((r 0)) ((r 1)) ((r 2)) ((r 3)) ((r 4)) ((r 5)) ((r 6)) ((r 7)) ((r 8)) ((r 9)) ((r 10)) ((r 11)) ((r 12)) ((r 13)) ((r 14)) ((r 15)) ((r 16)) ((r 17)) ((r 18)) ((r 19)) ((r 20)) ((r 21)) ((r 22)) ((r 23)) ((r 24)) ((r 25)) ((r 26)) ((r 27)) ((r 28)) ((r 29)) ((r 30)) ((r 31)) ((r 32)) ((r 33)) ((j 0)) ((j 1)) ((j 2)) ((xs 1)) ((xs 2)) ((xs 3))) (cwV 3 hts (gk_V tw_1115 tw_1116 tw_1117 tw_505 wki_f_X12_row wkg_f_X12_row) rfl rfl rfl (by decide +kernel) ⟨Nat.le_of_ble_eq_true rfl, Nat.le_of_ble_eq_true rfl⟩) ⟨fun a U g mk q => by obtain ⟨q0, q1, qP, qK, qD⟩ := q; exact ⟨q0, q1, qP, va_K.moved (u := U) (U := U.calling g mk a) (Vm.Alike.refl U.vm) qK, qD⟩, va_recv hKc hPc (ci := 12) (q0 := 0) rfl rfl, fun U hU hW => ⟨rfl, by rw [hU], by rw [hU]; exact hPc, va_K.moved hW.alike hKc, hDc.weaken (fun _ _ _ _ => trivial)⟩⟩ rfl rfl hl.1 rfl (lv_room (Nat.le_of_ble_eq_true rfl)) dL_law_2149 ⟨Nat.le_of_ble_eq_true rfl, Nat.le_of_ble_eq_true rfl⟩) hS (fun q _ h => hFc q h) hFc (fun oz235 u t H1 locs ht hvm gz234 hB hz1 hk1 hS => ?_)
    generalize H1 = H at hS ⊢
    refine W.widen (k := 305) (n := 4995) (Nat.le_of_ble_eq_true rfl) (Nat.le_of_ble_eq_true rfl) ?_
    rcases gz234 with ⟨rfl, cz236⟩ | ⟨rfl, cz237, cz238⟩ | ⟨rfl, cz239, cz240, cz241⟩ | ⟨rfl, cz242, cz243, cz244, cz245⟩ | ⟨rfl, cz246, cz247, cz248, cz249, cz250, cz251⟩ | ⟨rfl, cz252, cz253, cz254, cz255, cz256, cz257⟩ | ⟨rfl, cz258, cz259, cz260, cz261, cz262⟩
    · skip
      have z0 : ¬ (xs 1).toInt < (0 : Int) := fun h9 => cz28 (zi_lt.mpr h9)
      have z1 : ¬ (4 : Int) ≤ (xs 1).toInt := fun h9 => cz29 (zi_le.mpr h9)
      have z5 : (xs 1).toInt < (0 : Int) := by have h9 := zi_ltL.mp cz236; simp only [Int32.toInt_toInt64] at h9; exact h9
      omega
    · skip
      have z0 : ¬ (xs 1).toInt < (0 : Int) := fun h9 => cz28 (zi_lt.mpr h9)
      have z1 : ¬ (4 : Int) ≤ (xs 1).toInt := fun h9 => cz29 (zi_le.mpr h9)
      have z5 : ¬ (xs 1).toInt < (0 : Int) := by intro h9; apply cz237; rw [zi_ltL]; simp only [Int32.toInt_toInt64]; exact h9
      have z6 : (3 : Int) < (xs 1).toInt := by have h9 := zi_ltL.mp cz238; simp only [Int32.toInt_toInt64] at h9; exact h9
      omega
    · skip
      have z2 : ¬ (xs 2).toInt < (0 : Int) := fun h9 => cz30 (zi_lt.mpr h9)
      have z3 : ¬ (4 : Int) ≤ (xs 2).toInt := fun h9 => cz31 (zi_le.mpr h9)
      have z7 : (xs 2).toInt < (0 : Int) := by have h9 := zi_ltL.mp cz241; simp only [Int32.toInt_toInt64] at h9; exact h9
      omega
    · skip
      have z2 : ¬ (xs 2).toInt < (0 : Int) := fun h9 => cz30 (zi_lt.mpr h9)
      have z3 : ¬ (4 : Int) ≤ (xs 2).toInt := fun h9 => cz31 (zi_le.mpr h9)
      have z7 : ¬ (xs 2).toInt < (0 : Int) := by intro h9; apply cz244; rw [zi_ltL]; simp only [Int32.toInt_toInt64]; exact h9
      have z8 : (3 : Int) < (xs 2).toInt := by have h9 := zi_ltL.mp cz245; simp only [Int32.toInt_toInt64] at h9; exact h9
      omega
    · skip
      have z4 : ¬ (xs 3).toInt ≤ (60 : Int) := fun h9 => cz32 (zi_le.mpr h9)
      have z9 : (xs 3).toInt ≤ (60 : Int) := zi_le.mp cz250
      omega
    · skip
      have z4 : ¬ (xs 3).toInt ≤ (60 : Int) := fun h9 => cz32 (zi_le.mpr h9)
      have z9 : (xs 3).toInt ≤ (60 : Int) := zi_le.mp cz256
      omega
    · skip
      refine lv_icmp_eq (tgt := 2293) hx hb dL_law_2152 (by decide) (fun cz263 => ?_) (fun cz263 => ?_)
      · skip
        exact law_end (dC := dC) (dI := dI) (Nat.le_of_eq hL6) C0 A hAe (q 0) (r 0) H locs hS ls hl
      · skip
        exact absurd cz263 (by decide)
set_option maxHeartbeats 4000000 in
set_option maxRecDepth 100000 in
theorem law_case_70 {p : Program} {l : Launch} {e : Env} {s : State} {m : MethodId} {below : List Frame} {meth : Method} {c : Code} {dC : Nat → ClassId} {dI : Nat → Nat → Nat} {b L : Nat} {xs : Nat → Int32} (hL6 : L = 6) (C0 : lw_At p s m meth c b L xs) (A : Nat → Prop) (hAe : A = fun q => s.heap.size ≤ q) (q r : Nat → Nat) (k j : Nat → ClassId) (H : Heap) (locs : List Loc) (hK : va_K (dC, dI) vwCl (tX k ++ tM j) s) (hP : va_P (dC, dI) vwCl (wX q k ++ wM r j) H) (hD : va_D A (wX q k ++ wM r j)) (hS : va_S A s.heap H locs) (ls : Array Slot) (hl : lv_has ls 4 [(0, .ref b), (1, .ref (q 0)), (2, .ref (r 0)), (3, .int 0)]) : W p l e room_1 s m #[Value.ref b] below meth c H locs 305 4995 (lw_Z below #[Value.ref b] s) (F0 m 2157 ls []) := by
  obtain ⟨hx, hb, hr, hml, hown, hts, hX, hbl, hlocks, hgv⟩ := id C0
  have hown : s.vm.findClass RL = some m.cls := hown
  have hA : ∀ q : Nat, s.heap.size ≤ q → A q := by rw [hAe]; exact fun _ h => h
  have hbA : ¬ A b := by rw [hAe]; exact Nat.not_le.mpr hbl
  refine lv_aload_n hx hb dL_law_2157 rfl (lv_at hl 1 rfl) ?_
  refine lv_aload_n hx hb dL_law_2158 rfl (lv_at hl 0 rfl) ?_
  refine lv_iload_n hx hb dL_law_2159 rfl (lv_at hl 3 rfl) ?_
  refine lv_iconst (v := 1) hx hb dL_law_2160 (by decide) ?_
  refine lv_iadd hx hb dL_law_2161 ?_
  refine lv_topi (fun xz1 exz1 => ?_)
  obtain rfl : xz1 = 1 := exz1.trans (by decide)
  refine va_sld hx hb hX hbl hbA hS (by rw [hL6]; unfold vp_in; decide) dL_law_2162 ?_
  refine W.eq (g2 := F0 m 2163 ls [.int (xs 1), .ref (q 0)]) rfl ?_
  refine lv_aload_n hx hb dL_law_2163 rfl (lv_at hl 0 rfl) ?_
  refine lv_iload_n hx hb dL_law_2164 rfl (lv_at hl 3 rfl) ?_
  refine lv_iconst (v := 2) hx hb dL_law_2165 (by decide) ?_
  refine lv_iadd hx hb dL_law_2166 ?_
  refine lv_topi (fun xz2 exz2 => ?_)
  obtain rfl : xz2 = 2 := exz2.trans (by decide)
  refine va_sld hx hb hX hbl hbA hS (by rw [hL6]; unfold vp_in; decide) dL_law_2167 ?_
  refine W.eq (g2 := F0 m 2168 ls [.int (xs 2), .int (xs 1), .ref (q 0)]) rfl ?_
  refine lv_aload_n hx hb dL_law_2168 rfl (lv_at hl 0 rfl) ?_
  refine lv_iload_n hx hb dL_law_2169 rfl (lv_at hl 3 rfl) ?_
  refine lv_iconst (v := 3) hx hb dL_law_2170 (by decide) ?_
  refine lv_iadd hx hb dL_law_2171 ?_
  refine lv_topi (fun xz3 exz3 => ?_)
  obtain rfl : xz3 = 3 := exz3.trans (by decide)
  refine va_sld hx hb hX hbl hbA hS (by rw [hL6]; unfold vp_in; decide) dL_law_2172 ?_
  refine W.eq (g2 := F0 m 2173 ls [.int (xs 3), .int (xs 2), .int (xs 1), .ref (q 0)]) rfl ?_
  refine lv_i2l hx hb dL_law_2173 rfl ?_
  refine lv_bipush (v := 32) hx hb dL_law_2174 (by decide) ?_
  refine lv_lshl hx hb dL_law_2176 rfl ?_
  refine lv_topl (fun xz4 exz4 => ?_)
  refine lv_aload_n hx hb dL_law_2177 rfl (lv_at hl 0 rfl) ?_
  refine lv_iload_n hx hb dL_law_2178 rfl (lv_at hl 3 rfl) ?_
  refine lv_iconst (v := 4) hx hb dL_law_2179 (by decide) ?_
  refine lv_iadd hx hb dL_law_2180 ?_
  refine lv_topi (fun xz5 exz5 => ?_)
  obtain rfl : xz5 = 4 := exz5.trans (by decide)
  refine va_sld hx hb hX hbl hbA hS (by rw [hL6]; unfold vp_in; decide) dL_law_2181 ?_
  refine W.eq (g2 := F0 m 2182 ls [.int (xs 4), .long xz4, .int (xs 2), .int (xs 1), .ref (q 0)]) rfl ?_
  refine lv_i2l hx hb dL_law_2182 rfl ?_
  refine lv_ldc2 (v := 4294967295) hx hb hown (hts (.constantLong RL 299 (4294967295)) tw_1118) dL_law_2183 ?_
  refine lv_land hx hb dL_law_2186 ?_
  refine lv_topl (fun xz6 exz6 => ?_)
  refine lv_lor hx hb dL_law_2187 ?_
  refine lv_topl (fun xz7 exz7 => ?_)
  have hPc := hP.sub (ws' := [((q 0), .inr (11, [.ref (q 1), .ref (q 2), .ref (q 3), .ref (q 4), .ref (q 5), .ref (q 6), .ref (q 7), .ref (q 8), .ref (q 9), .ref (q 10), .ref (q 11), .ref (q 12), .ref (q 13), .ref (q 14), .ref (q 15)])), ((q 14), .inl ((k 20), 4, .inr (.inr (.inr (.inr (va_up (va_up (va_up (va_up (fun _ => none) 0 (some (q 43))) 1 (some (q 44))) 2 (some (q 45))) 3 (some (q 46)))))))), ((q 43), .inr (6, [.ref (q 47), .int 0, .int 0, .int 0])), ((q 44), .inr (6, [.ref (q 48), .int 0, .int 0, .int 0])), ((q 45), .inr (6, [.ref (q 49), .int 0, .int 0, .int 0])), ((q 46), .inr (6, [.ref (q 50), .int 0, .int 0, .int 0]))]) [0, 29, 30, 32, 34, 36] rfl
  have hKc := hK.sub (tys' := [((k 20), .object RX6)]) [20] rfl
  refine vp_callSi (va_Run.run (va_runV (As := [.int (xs 1), .int (xs 2), .long xz7]) (rest := []) ⟨hx, hb, hml, hown, hts⟩ (f_X11_write l dC dI ((q 0)) ((q 1)) ((q 2)) ((q 3)) ((q 4)) ((q 5)) ((q 6)) ((q 7)) ((q 8)) ((q 9)) ((q 10)) ((q 11)) ((q 12)) ((q 13)) ((q 14)) ((q 15)) ((q 43)) ((q 44)) ((q 45)) ((q 46)) ((q 47)) ((q 48)) ((q 49)) ((q 50)) ((k 20)) ((xs 1)) ((xs 2)) xz7) (cwV 3 hts (gk_V tw_1119 tw_1120 tw_1121 tw_157 wki_f_X11_write wkg_f_X11_write) rfl rfl rfl (by decide +kernel) ⟨Nat.le_of_ble_eq_true rfl, Nat.le_of_ble_eq_true rfl⟩) ⟨fun a U g mk q => by obtain ⟨q0, qP, qK⟩ := q; exact ⟨q0, qP, va_K.moved (u := U) (U := U.calling g mk a) (Vm.Alike.refl U.vm) qK⟩, va_recv hKc hPc (ci := 11) (q0 := 0) rfl rfl, fun U hU hW => ⟨rfl, by rw [hU]; exact hPc, va_K.moved hW.alike hKc⟩⟩ rfl rfl hl.1 rfl (lv_room (Nat.le_of_ble_eq_true rfl)) dL_law_2188 ⟨Nat.le_of_ble_eq_true rfl, Nat.le_of_ble_eq_true rfl⟩)) (fun oz9 gz8 => ?_)
  rcases gz8 with ⟨rfl, cz10⟩ | ⟨rfl, cz11, cz12⟩ | ⟨rfl, cz13, cz14⟩
  · skip
    refine lv_aload_n hx hb dL_law_2191 rfl (lv_at hl 2 rfl) ?_
    refine lv_aload_n hx hb dL_law_2192 rfl (lv_at hl 0 rfl) ?_
    refine lv_iload_n hx hb dL_law_2193 rfl (lv_at hl 3 rfl) ?_
    refine lv_iconst (v := 1) hx hb dL_law_2194 (by decide) ?_
    refine lv_iadd hx hb dL_law_2195 ?_
    refine lv_topi (fun xz15 exz15 => ?_)
    obtain rfl : xz15 = 1 := exz15.trans (by decide)
    refine va_sld hx hb hX hbl hbA hS (by rw [hL6]; unfold vp_in; decide) dL_law_2196 ?_
    refine W.eq (g2 := F0 m 2197 ls [.int (xs 1), .ref (r 0), .int (-2)]) rfl ?_
    refine lv_aload_n hx hb dL_law_2197 rfl (lv_at hl 0 rfl) ?_
    refine lv_iload_n hx hb dL_law_2198 rfl (lv_at hl 3 rfl) ?_
    refine lv_iconst (v := 2) hx hb dL_law_2199 (by decide) ?_
    refine lv_iadd hx hb dL_law_2200 ?_
    refine lv_topi (fun xz16 exz16 => ?_)
    obtain rfl : xz16 = 2 := exz16.trans (by decide)
    refine va_sld hx hb hX hbl hbA hS (by rw [hL6]; unfold vp_in; decide) dL_law_2201 ?_
    refine W.eq (g2 := F0 m 2202 ls [.int (xs 2), .int (xs 1), .ref (r 0), .int (-2)]) rfl ?_
    refine lv_aload_n hx hb dL_law_2202 rfl (lv_at hl 0 rfl) ?_
    refine lv_iload_n hx hb dL_law_2203 rfl (lv_at hl 3 rfl) ?_
    refine lv_iconst (v := 3) hx hb dL_law_2204 (by decide) ?_
    refine lv_iadd hx hb dL_law_2205 ?_
    refine lv_topi (fun xz17 exz17 => ?_)
    obtain rfl : xz17 = 3 := exz17.trans (by decide)
    refine va_sld hx hb hX hbl hbA hS (by rw [hL6]; unfold vp_in; decide) dL_law_2206 ?_
    refine W.eq (g2 := F0 m 2207 ls [.int (xs 3), .int (xs 2), .int (xs 1), .ref (r 0), .int (-2)]) rfl ?_
    refine lv_i2l hx hb dL_law_2207 rfl ?_
    refine lv_bipush (v := 32) hx hb dL_law_2208 (by decide) ?_
    refine lv_lshl hx hb dL_law_2210 rfl ?_
    refine lv_topl (fun xz18 exz18 => ?_)
    refine lv_aload_n hx hb dL_law_2211 rfl (lv_at hl 0 rfl) ?_
    refine lv_iload_n hx hb dL_law_2212 rfl (lv_at hl 3 rfl) ?_
    refine lv_iconst (v := 4) hx hb dL_law_2213 (by decide) ?_
    refine lv_iadd hx hb dL_law_2214 ?_
    refine lv_topi (fun xz19 exz19 => ?_)
    obtain rfl : xz19 = 4 := exz19.trans (by decide)
    refine va_sld hx hb hX hbl hbA hS (by rw [hL6]; unfold vp_in; decide) dL_law_2215 ?_
    refine W.eq (g2 := F0 m 2216 ls [.int (xs 4), .long xz18, .int (xs 2), .int (xs 1), .ref (r 0), .int (-2)]) rfl ?_
    refine lv_i2l hx hb dL_law_2216 rfl ?_
    refine lv_ldc2 (v := 4294967295) hx hb hown (hts (.constantLong RL 299 (4294967295)) tw_1118) dL_law_2217 ?_
    refine lv_land hx hb dL_law_2220 ?_
    refine lv_topl (fun xz20 exz20 => ?_)
    refine lv_lor hx hb dL_law_2221 ?_
    refine lv_topl (fun xz21 exz21 => ?_)
    have hPc := hP.sub (ws' := [((r 0), .inr (12, [.int 0, .ref (r 1), .ref (r 2), .ref (r 3), .ref (r 4), .ref (r 5), .int 0, .int 0, .int 0, .int 0, .int 0, .long 0, .int 0, .int 0, .int 0, .int (-1), .ref (r 6), .ref (r 7), .ref (r 8), .ref (r 9), .ref (r 10), .ref (r 11), .ref (r 12), .ref (r 13), .int 0, .int 0, .int 0, .ref (r 14), .ref (r 15), .ref (r 16), .ref (r 17), .ref (r 18), .ref (r 19), .ref (r 20), .ref (r 21), .ref (r 22), .ref (r 23), .ref (r 24), .ref (r 25), .ref (r 26), .ref (r 27), .ref (r 28), .ref (r 29), .int 0, .int 0, .int 0, .ref (r 30), .int 0, .int 0, .int 0, .int 0, .int 0, .int 0, .ref (r 31), .int 0, .int 0, .int 0, .ref (r 32), .ref (r 33)])), ((r 1), .inl ((j 0), 4, .inl (upd (upd (upd (upd (fun _ => 0) 0 (-1)) 1 (-1)) 2 (-1)) 3 (-1))))]) [78, 79] rfl
    have hKc := hK.sub (tys' := [((j 0), .int)]) [56] rfl
    have hDc := hD.sub (ws' := [((r 0), .inr (12, [.int 0, .ref (r 1), .ref (r 2), .ref (r 3), .ref (r 4), .ref (r 5), .int 0, .int 0, .int 0, .int 0, .int 0, .long 0, .int 0, .int 0, .int 0, .int (-1), .ref (r 6), .ref (r 7), .ref (r 8), .ref (r 9), .ref (r 10), .ref (r 11), .ref (r 12), .ref (r 13), .int 0, .int 0, .int 0, .ref (r 14), .ref (r 15), .ref (r 16), .ref (r 17), .ref (r 18), .ref (r 19), .ref (r 20), .ref (r 21), .ref (r 22), .ref (r 23), .ref (r 24), .ref (r 25), .ref (r 26), .ref (r 27), .ref (r 28), .ref (r 29), .int 0, .int 0, .int 0, .ref (r 30), .int 0, .int 0, .int 0, .int 0, .int 0, .int 0, .ref (r 31), .int 0, .int 0, .int 0, .ref (r 32), .ref (r 33)])), ((r 1), .inl ((j 0), 4, .inl (upd (upd (upd (upd (fun _ => 0) 0 (-1)) 1 (-1)) 2 (-1)) 3 (-1))))]) [78, 79] (by decide) rfl
    have hFc := va_free (wc := [((r 0), .inr (12, [.int 0, .ref (r 1), .ref (r 2), .ref (r 3), .ref (r 4), .ref (r 5), .int 0, .int 0, .int 0, .int 0, .int 0, .long 0, .int 0, .int 0, .int 0, .int (-1), .ref (r 6), .ref (r 7), .ref (r 8), .ref (r 9), .ref (r 10), .ref (r 11), .ref (r 12), .ref (r 13), .int 0, .int 0, .int 0, .ref (r 14), .ref (r 15), .ref (r 16), .ref (r 17), .ref (r 18), .ref (r 19), .ref (r 20), .ref (r 21), .ref (r 22), .ref (r 23), .ref (r 24), .ref (r 25), .ref (r 26), .ref (r 27), .ref (r 28), .ref (r 29), .int 0, .int 0, .int 0, .ref (r 30), .int 0, .int 0, .int 0, .int 0, .int 0, .int 0, .ref (r 31), .int 0, .int 0, .int 0, .ref (r 32), .ref (r 33)])), ((r 1), .inl ((j 0), 4, .inl (upd (upd (upd (upd (fun _ => 0) 0 (-1)) 1 (-1)) 2 (-1)) 3 (-1))))]) hD hS hA [78, 79] rfl
    refine va_calli (va_runV (As := [.int (xs 1), .int (xs 2), .long xz21]) (rest := [.int (-2)]) ⟨hx, hb, hml, hown, hts⟩ (f_X12_write l dC dI H.size ((r 0)) ((r 1)) ((r 2)) ((r 3)) ((r 4)) ((r 5)) ((r 6)) ((r 7)) ((r 8)) ((r 9)) ((r 10)) ((r 11)) ((r 12)) ((r 13)) ((r 14)) ((r 15)) ((r 16)) ((r 17)) ((r 18)) ((r 19)) ((r 20)) ((r 21)) ((r 22)) ((r 23)) ((r 24)) ((r 25)) ((r 26)) ((r 27)) ((r 28)) ((r 29)) ((r 30)) ((r 31)) ((r 32)) ((r 33)) ((j 0)) ((xs 1)) ((xs 2)) xz21) (cwV 3 hts (gk_V tw_1122 tw_1123 tw_1124 tw_505 wki_f_X12_write wkg_f_X12_write) rfl rfl rfl (by decide +kernel) ⟨Nat.le_of_ble_eq_true rfl, Nat.le_of_ble_eq_true rfl⟩) ⟨fun a U g mk q => by obtain ⟨q0, q1, qP, qK, qD⟩ := q; exact ⟨q0, q1, qP, va_K.moved (u := U) (U := U.calling g mk a) (Vm.Alike.refl U.vm) qK, qD⟩, va_recv hKc hPc (ci := 12) (q0 := 0) rfl rfl, fun U hU hW => ⟨rfl, by rw [hU], by rw [hU]; exact hPc, va_K.moved hW.alike hKc, hDc.weaken (fun _ _ _ _ => trivial)⟩⟩ rfl rfl hl.1 rfl (lv_room (Nat.le_of_ble_eq_true rfl)) dL_law_2222 ⟨Nat.le_of_ble_eq_true rfl, Nat.le_of_ble_eq_true rfl⟩) hS (fun q _ h => hFc q h) hFc (fun oz23 u t H1 locs ht hvm gz22 hB hz1 hk1 hS => ?_)
    generalize H1 = H at hS ⊢
    refine W.widen (k := 305) (n := 4995) (Nat.le_of_ble_eq_true rfl) (Nat.le_of_ble_eq_true rfl) ?_
    rcases gz22 with ⟨rfl, cz24⟩ | ⟨rfl, cz25, cz26⟩ | ⟨rfl, cz27, cz28⟩
    · skip
      refine lv_icmp_eq (tgt := 2293) hx hb dL_law_2225 (by decide) (fun cz29 => ?_) (fun cz29 => ?_)
      · skip
        exact law_end (dC := dC) (dI := dI) (Nat.le_of_eq hL6) C0 A hAe (q 0) (r 0) H locs hS ls hl
      · skip
        exact absurd cz29 (by decide)
    · skip
      have z0 : (xs 1).toInt < (0 : Int) := zi_lt.mp cz10
      have z1 : ¬ (xs 1).toInt < (0 : Int) := by intro h9; apply cz25; rw [zi_ltL]; simp only [Int32.toInt_toInt64]; exact h9
      omega
    · skip
      have z0 : (xs 1).toInt < (0 : Int) := zi_lt.mp cz10
      have z1 : ¬ (xs 1).toInt < (0 : Int) := by intro h9; apply cz27; rw [zi_ltL]; simp only [Int32.toInt_toInt64]; exact h9
      omega
  · skip
    refine lv_aload_n hx hb dL_law_2191 rfl (lv_at hl 2 rfl) ?_
    refine lv_aload_n hx hb dL_law_2192 rfl (lv_at hl 0 rfl) ?_
    refine lv_iload_n hx hb dL_law_2193 rfl (lv_at hl 3 rfl) ?_
    refine lv_iconst (v := 1) hx hb dL_law_2194 (by decide) ?_
    refine lv_iadd hx hb dL_law_2195 ?_
    refine lv_topi (fun xz30 exz30 => ?_)
    obtain rfl : xz30 = 1 := exz30.trans (by decide)
    refine va_sld hx hb hX hbl hbA hS (by rw [hL6]; unfold vp_in; decide) dL_law_2196 ?_
    refine W.eq (g2 := F0 m 2197 ls [.int (xs 1), .ref (r 0), .int (-2)]) rfl ?_
    refine lv_aload_n hx hb dL_law_2197 rfl (lv_at hl 0 rfl) ?_
    refine lv_iload_n hx hb dL_law_2198 rfl (lv_at hl 3 rfl) ?_
    refine lv_iconst (v := 2) hx hb dL_law_2199 (by decide) ?_
    refine lv_iadd hx hb dL_law_2200 ?_
    refine lv_topi (fun xz31 exz31 => ?_)
    obtain rfl : xz31 = 2 := exz31.trans (by decide)
    refine va_sld hx hb hX hbl hbA hS (by rw [hL6]; unfold vp_in; decide) dL_law_2201 ?_
    refine W.eq (g2 := F0 m 2202 ls [.int (xs 2), .int (xs 1), .ref (r 0), .int (-2)]) rfl ?_
    refine lv_aload_n hx hb dL_law_2202 rfl (lv_at hl 0 rfl) ?_
    refine lv_iload_n hx hb dL_law_2203 rfl (lv_at hl 3 rfl) ?_
    refine lv_iconst (v := 3) hx hb dL_law_2204 (by decide) ?_
    refine lv_iadd hx hb dL_law_2205 ?_
    refine lv_topi (fun xz32 exz32 => ?_)
    obtain rfl : xz32 = 3 := exz32.trans (by decide)
    refine va_sld hx hb hX hbl hbA hS (by rw [hL6]; unfold vp_in; decide) dL_law_2206 ?_
    refine W.eq (g2 := F0 m 2207 ls [.int (xs 3), .int (xs 2), .int (xs 1), .ref (r 0), .int (-2)]) rfl ?_
    refine lv_i2l hx hb dL_law_2207 rfl ?_
    refine lv_bipush (v := 32) hx hb dL_law_2208 (by decide) ?_
    refine lv_lshl hx hb dL_law_2210 rfl ?_
    refine lv_topl (fun xz33 exz33 => ?_)
    refine lv_aload_n hx hb dL_law_2211 rfl (lv_at hl 0 rfl) ?_
    refine lv_iload_n hx hb dL_law_2212 rfl (lv_at hl 3 rfl) ?_
    refine lv_iconst (v := 4) hx hb dL_law_2213 (by decide) ?_
    refine lv_iadd hx hb dL_law_2214 ?_
    refine lv_topi (fun xz34 exz34 => ?_)
    obtain rfl : xz34 = 4 := exz34.trans (by decide)
    refine va_sld hx hb hX hbl hbA hS (by rw [hL6]; unfold vp_in; decide) dL_law_2215 ?_
    refine W.eq (g2 := F0 m 2216 ls [.int (xs 4), .long xz33, .int (xs 2), .int (xs 1), .ref (r 0), .int (-2)]) rfl ?_
    refine lv_i2l hx hb dL_law_2216 rfl ?_
    refine lv_ldc2 (v := 4294967295) hx hb hown (hts (.constantLong RL 299 (4294967295)) tw_1118) dL_law_2217 ?_
    refine lv_land hx hb dL_law_2220 ?_
    refine lv_topl (fun xz35 exz35 => ?_)
    refine lv_lor hx hb dL_law_2221 ?_
    refine lv_topl (fun xz36 exz36 => ?_)
    have hPc := hP.sub (ws' := [((r 0), .inr (12, [.int 0, .ref (r 1), .ref (r 2), .ref (r 3), .ref (r 4), .ref (r 5), .int 0, .int 0, .int 0, .int 0, .int 0, .long 0, .int 0, .int 0, .int 0, .int (-1), .ref (r 6), .ref (r 7), .ref (r 8), .ref (r 9), .ref (r 10), .ref (r 11), .ref (r 12), .ref (r 13), .int 0, .int 0, .int 0, .ref (r 14), .ref (r 15), .ref (r 16), .ref (r 17), .ref (r 18), .ref (r 19), .ref (r 20), .ref (r 21), .ref (r 22), .ref (r 23), .ref (r 24), .ref (r 25), .ref (r 26), .ref (r 27), .ref (r 28), .ref (r 29), .int 0, .int 0, .int 0, .ref (r 30), .int 0, .int 0, .int 0, .int 0, .int 0, .int 0, .ref (r 31), .int 0, .int 0, .int 0, .ref (r 32), .ref (r 33)])), ((r 1), .inl ((j 0), 4, .inl (upd (upd (upd (upd (fun _ => 0) 0 (-1)) 1 (-1)) 2 (-1)) 3 (-1))))]) [78, 79] rfl
    have hKc := hK.sub (tys' := [((j 0), .int)]) [56] rfl
    have hDc := hD.sub (ws' := [((r 0), .inr (12, [.int 0, .ref (r 1), .ref (r 2), .ref (r 3), .ref (r 4), .ref (r 5), .int 0, .int 0, .int 0, .int 0, .int 0, .long 0, .int 0, .int 0, .int 0, .int (-1), .ref (r 6), .ref (r 7), .ref (r 8), .ref (r 9), .ref (r 10), .ref (r 11), .ref (r 12), .ref (r 13), .int 0, .int 0, .int 0, .ref (r 14), .ref (r 15), .ref (r 16), .ref (r 17), .ref (r 18), .ref (r 19), .ref (r 20), .ref (r 21), .ref (r 22), .ref (r 23), .ref (r 24), .ref (r 25), .ref (r 26), .ref (r 27), .ref (r 28), .ref (r 29), .int 0, .int 0, .int 0, .ref (r 30), .int 0, .int 0, .int 0, .int 0, .int 0, .int 0, .ref (r 31), .int 0, .int 0, .int 0, .ref (r 32), .ref (r 33)])), ((r 1), .inl ((j 0), 4, .inl (upd (upd (upd (upd (fun _ => 0) 0 (-1)) 1 (-1)) 2 (-1)) 3 (-1))))]) [78, 79] (by decide) rfl
    have hFc := va_free (wc := [((r 0), .inr (12, [.int 0, .ref (r 1), .ref (r 2), .ref (r 3), .ref (r 4), .ref (r 5), .int 0, .int 0, .int 0, .int 0, .int 0, .long 0, .int 0, .int 0, .int 0, .int (-1), .ref (r 6), .ref (r 7), .ref (r 8), .ref (r 9), .ref (r 10), .ref (r 11), .ref (r 12), .ref (r 13), .int 0, .int 0, .int 0, .ref (r 14), .ref (r 15), .ref (r 16), .ref (r 17), .ref (r 18), .ref (r 19), .ref (r 20), .ref (r 21), .ref (r 22), .ref (r 23), .ref (r 24), .ref (r 25), .ref (r 26), .ref (r 27), .ref (r 28), .ref (r 29), .int 0, .int 0, .int 0, .ref (r 30), .int 0, .int 0, .int 0, .int 0, .int 0, .int 0, .ref (r 31), .int 0, .int 0, .int 0, .ref (r 32), .ref (r 33)])), ((r 1), .inl ((j 0), 4, .inl (upd (upd (upd (upd (fun _ => 0) 0 (-1)) 1 (-1)) 2 (-1)) 3 (-1))))]) hD hS hA [78, 79] rfl
    refine va_calli (va_runV (As := [.int (xs 1), .int (xs 2), .long xz36]) (rest := [.int (-2)]) ⟨hx, hb, hml, hown, hts⟩ (f_X12_write l dC dI H.size ((r 0)) ((r 1)) ((r 2)) ((r 3)) ((r 4)) ((r 5)) ((r 6)) ((r 7)) ((r 8)) ((r 9)) ((r 10)) ((r 11)) ((r 12)) ((r 13)) ((r 14)) ((r 15)) ((r 16)) ((r 17)) ((r 18)) ((r 19)) ((r 20)) ((r 21)) ((r 22)) ((r 23)) ((r 24)) ((r 25)) ((r 26)) ((r 27)) ((r 28)) ((r 29)) ((r 30)) ((r 31)) ((r 32)) ((r 33)) ((j 0)) ((xs 1)) ((xs 2)) xz36) (cwV 3 hts (gk_V tw_1122 tw_1123 tw_1124 tw_505 wki_f_X12_write wkg_f_X12_write) rfl rfl rfl (by decide +kernel) ⟨Nat.le_of_ble_eq_true rfl, Nat.le_of_ble_eq_true rfl⟩) ⟨fun a U g mk q => by obtain ⟨q0, q1, qP, qK, qD⟩ := q; exact ⟨q0, q1, qP, va_K.moved (u := U) (U := U.calling g mk a) (Vm.Alike.refl U.vm) qK, qD⟩, va_recv hKc hPc (ci := 12) (q0 := 0) rfl rfl, fun U hU hW => ⟨rfl, by rw [hU], by rw [hU]; exact hPc, va_K.moved hW.alike hKc, hDc.weaken (fun _ _ _ _ => trivial)⟩⟩ rfl rfl hl.1 rfl (lv_room (Nat.le_of_ble_eq_true rfl)) dL_law_2222 ⟨Nat.le_of_ble_eq_true rfl, Nat.le_of_ble_eq_true rfl⟩) hS (fun q _ h => hFc q h) hFc (fun oz38 u t H1 locs ht hvm gz37 hB hz1 hk1 hS => ?_)
    generalize H1 = H at hS ⊢
    refine W.widen (k := 305) (n := 4995) (Nat.le_of_ble_eq_true rfl) (Nat.le_of_ble_eq_true rfl) ?_
    rcases gz37 with ⟨rfl, cz39⟩ | ⟨rfl, cz40, cz41⟩ | ⟨rfl, cz42, cz43⟩
    · skip
      have z0 : ¬ (xs 1).toInt < (0 : Int) := fun h9 => cz11 (zi_lt.mpr h9)
      have z1 : (4 : Int) ≤ (xs 1).toInt := zi_le.mp cz12
      have z2 : (xs 1).toInt < (0 : Int) := by have h9 := zi_ltL.mp cz39; simp only [Int32.toInt_toInt64] at h9; exact h9
      omega
    · skip
      refine lv_icmp_eq (tgt := 2293) hx hb dL_law_2225 (by decide) (fun cz44 => ?_) (fun cz44 => ?_)
      · skip
        exact law_end (dC := dC) (dI := dI) (Nat.le_of_eq hL6) C0 A hAe (q 0) (r 0) H locs hS ls hl
      · skip
        exact absurd cz44 (by decide)
    · skip
      have z0 : ¬ (xs 1).toInt < (0 : Int) := fun h9 => cz11 (zi_lt.mpr h9)
      have z1 : (4 : Int) ≤ (xs 1).toInt := zi_le.mp cz12
      have z2 : ¬ (xs 1).toInt < (0 : Int) := by intro h9; apply cz42; rw [zi_ltL]; simp only [Int32.toInt_toInt64]; exact h9
      have z3 : ¬ (3 : Int) < (xs 1).toInt := by intro h9; apply cz43; rw [zi_ltL]; simp only [Int32.toInt_toInt64]; exact h9
      omega
  · skip
    refine lv_aload_n hx hb dL_law_2191 rfl (lv_at hl 2 rfl) ?_
    refine lv_aload_n hx hb dL_law_2192 rfl (lv_at hl 0 rfl) ?_
    refine lv_iload_n hx hb dL_law_2193 rfl (lv_at hl 3 rfl) ?_
    refine lv_iconst (v := 1) hx hb dL_law_2194 (by decide) ?_
    refine lv_iadd hx hb dL_law_2195 ?_
    refine lv_topi (fun xz45 exz45 => ?_)
    obtain rfl : xz45 = 1 := exz45.trans (by decide)
    refine va_sld hx hb hX hbl hbA hS (by rw [hL6]; unfold vp_in; decide) dL_law_2196 ?_
    refine W.eq (g2 := F0 m 2197 ls [.int (xs 1), .ref (r 0), .int (-6)]) rfl ?_
    refine lv_aload_n hx hb dL_law_2197 rfl (lv_at hl 0 rfl) ?_
    refine lv_iload_n hx hb dL_law_2198 rfl (lv_at hl 3 rfl) ?_
    refine lv_iconst (v := 2) hx hb dL_law_2199 (by decide) ?_
    refine lv_iadd hx hb dL_law_2200 ?_
    refine lv_topi (fun xz46 exz46 => ?_)
    obtain rfl : xz46 = 2 := exz46.trans (by decide)
    refine va_sld hx hb hX hbl hbA hS (by rw [hL6]; unfold vp_in; decide) dL_law_2201 ?_
    refine W.eq (g2 := F0 m 2202 ls [.int (xs 2), .int (xs 1), .ref (r 0), .int (-6)]) rfl ?_
    refine lv_aload_n hx hb dL_law_2202 rfl (lv_at hl 0 rfl) ?_
    refine lv_iload_n hx hb dL_law_2203 rfl (lv_at hl 3 rfl) ?_
    refine lv_iconst (v := 3) hx hb dL_law_2204 (by decide) ?_
    refine lv_iadd hx hb dL_law_2205 ?_
    refine lv_topi (fun xz47 exz47 => ?_)
    obtain rfl : xz47 = 3 := exz47.trans (by decide)
    refine va_sld hx hb hX hbl hbA hS (by rw [hL6]; unfold vp_in; decide) dL_law_2206 ?_
    refine W.eq (g2 := F0 m 2207 ls [.int (xs 3), .int (xs 2), .int (xs 1), .ref (r 0), .int (-6)]) rfl ?_
    refine lv_i2l hx hb dL_law_2207 rfl ?_
    refine lv_bipush (v := 32) hx hb dL_law_2208 (by decide) ?_
    refine lv_lshl hx hb dL_law_2210 rfl ?_
    refine lv_topl (fun xz48 exz48 => ?_)
    refine lv_aload_n hx hb dL_law_2211 rfl (lv_at hl 0 rfl) ?_
    refine lv_iload_n hx hb dL_law_2212 rfl (lv_at hl 3 rfl) ?_
    refine lv_iconst (v := 4) hx hb dL_law_2213 (by decide) ?_
    refine lv_iadd hx hb dL_law_2214 ?_
    refine lv_topi (fun xz49 exz49 => ?_)
    obtain rfl : xz49 = 4 := exz49.trans (by decide)
    refine va_sld hx hb hX hbl hbA hS (by rw [hL6]; unfold vp_in; decide) dL_law_2215 ?_
    refine W.eq (g2 := F0 m 2216 ls [.int (xs 4), .long xz48, .int (xs 2), .int (xs 1), .ref (r 0), .int (-6)]) rfl ?_
    refine lv_i2l hx hb dL_law_2216 rfl ?_
    refine lv_ldc2 (v := 4294967295) hx hb hown (hts (.constantLong RL 299 (4294967295)) tw_1118) dL_law_2217 ?_
    refine lv_land hx hb dL_law_2220 ?_
    refine lv_topl (fun xz50 exz50 => ?_)
    refine lv_lor hx hb dL_law_2221 ?_
    refine lv_topl (fun xz51 exz51 => ?_)
    have hPc := hP.sub (ws' := [((r 0), .inr (12, [.int 0, .ref (r 1), .ref (r 2), .ref (r 3), .ref (r 4), .ref (r 5), .int 0, .int 0, .int 0, .int 0, .int 0, .long 0, .int 0, .int 0, .int 0, .int (-1), .ref (r 6), .ref (r 7), .ref (r 8), .ref (r 9), .ref (r 10), .ref (r 11), .ref (r 12), .ref (r 13), .int 0, .int 0, .int 0, .ref (r 14), .ref (r 15), .ref (r 16), .ref (r 17), .ref (r 18), .ref (r 19), .ref (r 20), .ref (r 21), .ref (r 22), .ref (r 23), .ref (r 24), .ref (r 25), .ref (r 26), .ref (r 27), .ref (r 28), .ref (r 29), .int 0, .int 0, .int 0, .ref (r 30), .int 0, .int 0, .int 0, .int 0, .int 0, .int 0, .ref (r 31), .int 0, .int 0, .int 0, .ref (r 32), .ref (r 33)])), ((r 1), .inl ((j 0), 4, .inl (upd (upd (upd (upd (fun _ => 0) 0 (-1)) 1 (-1)) 2 (-1)) 3 (-1))))]) [78, 79] rfl
    have hKc := hK.sub (tys' := [((j 0), .int)]) [56] rfl
    have hDc := hD.sub (ws' := [((r 0), .inr (12, [.int 0, .ref (r 1), .ref (r 2), .ref (r 3), .ref (r 4), .ref (r 5), .int 0, .int 0, .int 0, .int 0, .int 0, .long 0, .int 0, .int 0, .int 0, .int (-1), .ref (r 6), .ref (r 7), .ref (r 8), .ref (r 9), .ref (r 10), .ref (r 11), .ref (r 12), .ref (r 13), .int 0, .int 0, .int 0, .ref (r 14), .ref (r 15), .ref (r 16), .ref (r 17), .ref (r 18), .ref (r 19), .ref (r 20), .ref (r 21), .ref (r 22), .ref (r 23), .ref (r 24), .ref (r 25), .ref (r 26), .ref (r 27), .ref (r 28), .ref (r 29), .int 0, .int 0, .int 0, .ref (r 30), .int 0, .int 0, .int 0, .int 0, .int 0, .int 0, .ref (r 31), .int 0, .int 0, .int 0, .ref (r 32), .ref (r 33)])), ((r 1), .inl ((j 0), 4, .inl (upd (upd (upd (upd (fun _ => 0) 0 (-1)) 1 (-1)) 2 (-1)) 3 (-1))))]) [78, 79] (by decide) rfl
    have hFc := va_free (wc := [((r 0), .inr (12, [.int 0, .ref (r 1), .ref (r 2), .ref (r 3), .ref (r 4), .ref (r 5), .int 0, .int 0, .int 0, .int 0, .int 0, .long 0, .int 0, .int 0, .int 0, .int (-1), .ref (r 6), .ref (r 7), .ref (r 8), .ref (r 9), .ref (r 10), .ref (r 11), .ref (r 12), .ref (r 13), .int 0, .int 0, .int 0, .ref (r 14), .ref (r 15), .ref (r 16), .ref (r 17), .ref (r 18), .ref (r 19), .ref (r 20), .ref (r 21), .ref (r 22), .ref (r 23), .ref (r 24), .ref (r 25), .ref (r 26), .ref (r 27), .ref (r 28), .ref (r 29), .int 0, .int 0, .int 0, .ref (r 30), .int 0, .int 0, .int 0, .int 0, .int 0, .int 0, .ref (r 31), .int 0, .int 0, .int 0, .ref (r 32), .ref (r 33)])), ((r 1), .inl ((j 0), 4, .inl (upd (upd (upd (upd (fun _ => 0) 0 (-1)) 1 (-1)) 2 (-1)) 3 (-1))))]) hD hS hA [78, 79] rfl
    refine va_calli (va_runV (As := [.int (xs 1), .int (xs 2), .long xz51]) (rest := [.int (-6)]) ⟨hx, hb, hml, hown, hts⟩ (f_X12_write l dC dI H.size ((r 0)) ((r 1)) ((r 2)) ((r 3)) ((r 4)) ((r 5)) ((r 6)) ((r 7)) ((r 8)) ((r 9)) ((r 10)) ((r 11)) ((r 12)) ((r 13)) ((r 14)) ((r 15)) ((r 16)) ((r 17)) ((r 18)) ((r 19)) ((r 20)) ((r 21)) ((r 22)) ((r 23)) ((r 24)) ((r 25)) ((r 26)) ((r 27)) ((r 28)) ((r 29)) ((r 30)) ((r 31)) ((r 32)) ((r 33)) ((j 0)) ((xs 1)) ((xs 2)) xz51) (cwV 3 hts (gk_V tw_1122 tw_1123 tw_1124 tw_505 wki_f_X12_write wkg_f_X12_write) rfl rfl rfl (by decide +kernel) ⟨Nat.le_of_ble_eq_true rfl, Nat.le_of_ble_eq_true rfl⟩) ⟨fun a U g mk q => by obtain ⟨q0, q1, qP, qK, qD⟩ := q; exact ⟨q0, q1, qP, va_K.moved (u := U) (U := U.calling g mk a) (Vm.Alike.refl U.vm) qK, qD⟩, va_recv hKc hPc (ci := 12) (q0 := 0) rfl rfl, fun U hU hW => ⟨rfl, by rw [hU], by rw [hU]; exact hPc, va_K.moved hW.alike hKc, hDc.weaken (fun _ _ _ _ => trivial)⟩⟩ rfl rfl hl.1 rfl (lv_room (Nat.le_of_ble_eq_true rfl)) dL_law_2222 ⟨Nat.le_of_ble_eq_true rfl, Nat.le_of_ble_eq_true rfl⟩) hS (fun q _ h => hFc q h) hFc (fun oz53 u t H1 locs ht hvm gz52 hB hz1 hk1 hS => ?_)
    generalize H1 = H at hS ⊢
    refine W.widen (k := 305) (n := 4995) (Nat.le_of_ble_eq_true rfl) (Nat.le_of_ble_eq_true rfl) ?_
    rcases gz52 with ⟨rfl, cz54⟩ | ⟨rfl, cz55, cz56⟩ | ⟨rfl, cz57, cz58⟩
    · skip
      have z0 : ¬ (xs 1).toInt < (0 : Int) := fun h9 => cz13 (zi_lt.mpr h9)
      have z1 : ¬ (4 : Int) ≤ (xs 1).toInt := fun h9 => cz14 (zi_le.mpr h9)
      have z2 : (xs 1).toInt < (0 : Int) := by have h9 := zi_ltL.mp cz54; simp only [Int32.toInt_toInt64] at h9; exact h9
      omega
    · skip
      have z0 : ¬ (xs 1).toInt < (0 : Int) := fun h9 => cz13 (zi_lt.mpr h9)
      have z1 : ¬ (4 : Int) ≤ (xs 1).toInt := fun h9 => cz14 (zi_le.mpr h9)
      have z2 : ¬ (xs 1).toInt < (0 : Int) := by intro h9; apply cz55; rw [zi_ltL]; simp only [Int32.toInt_toInt64]; exact h9
      have z3 : (3 : Int) < (xs 1).toInt := by have h9 := zi_ltL.mp cz56; simp only [Int32.toInt_toInt64] at h9; exact h9
      omega
    · skip
      refine lv_icmp_eq (tgt := 2293) hx hb dL_law_2225 (by decide) (fun cz59 => ?_) (fun cz59 => ?_)
      · skip
        exact law_end (dC := dC) (dI := dI) (Nat.le_of_eq hL6) C0 A hAe (q 0) (r 0) H locs hS ls hl
      · skip
        exact absurd cz59 (by decide)
