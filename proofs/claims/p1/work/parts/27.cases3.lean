set_option maxHeartbeats 4000000 in
set_option maxRecDepth 100000 in
theorem law_case_71 {p : Program} {l : Launch} {e : Env} {s : State} {m : MethodId} {below : List Frame} {meth : Method} {c : Code} {dC : Nat → ClassId} {dI : Nat → Nat → Nat} {b L : Nat} {xs : Nat → Int32} (hL6 : L = 6) (C0 : lw_At p s m meth c b L xs) (A : Nat → Prop) (hAe : A = fun q => s.heap.size ≤ q) (q r : Nat → Nat) (k j : Nat → ClassId) (H : Heap) (locs : List Loc) (hK : va_K (dC, dI) vwCl (tX k ++ tM j) s) (hP : va_P (dC, dI) vwCl (wX q k ++ wM r j) H) (hD : va_D A (wX q k ++ wM r j)) (hS : va_S A s.heap H locs) (ls : Array Slot) (hl : lv_has ls 4 [(0, .ref b), (1, .ref (q 0)), (2, .ref (r 0)), (3, .int 0)]) : W p l e room_1 s m #[Value.ref b] below meth c H locs 305 4995 (lw_Z below #[Value.ref b] s) (F0 m 2230 ls []) := by
  obtain ⟨hx, hb, hr, hml, hown, hts, hX, hbl, hlocks, hgv⟩ := id C0
  have hown : s.vm.findClass RL = some m.cls := hown
  have hA : ∀ q : Nat, s.heap.size ≤ q → A q := by rw [hAe]; exact fun _ h => h
  have hbA : ¬ A b := by rw [hAe]; exact Nat.not_le.mpr hbl
  refine lv_aload_n hx hb dL_law_2230 rfl (lv_at hl 1 rfl) ?_
  refine lv_aload_n hx hb dL_law_2231 rfl (lv_at hl 0 rfl) ?_
  refine lv_iload_n hx hb dL_law_2232 rfl (lv_at hl 3 rfl) ?_
  refine lv_iconst (v := 1) hx hb dL_law_2233 (by decide) ?_
  refine lv_iadd hx hb dL_law_2234 ?_
  refine lv_topi (fun xz1 exz1 => ?_)
  obtain rfl : xz1 = 1 := exz1.trans (by decide)
  refine va_sld hx hb hX hbl hbA hS (by rw [hL6]; unfold vp_in; decide) dL_law_2235 ?_
  refine W.eq (g2 := F0 m 2236 ls [.int (xs 1), .ref (q 0)]) rfl ?_
  refine lv_aload_n hx hb dL_law_2236 rfl (lv_at hl 0 rfl) ?_
  refine lv_iload_n hx hb dL_law_2237 rfl (lv_at hl 3 rfl) ?_
  refine lv_iconst (v := 2) hx hb dL_law_2238 (by decide) ?_
  refine lv_iadd hx hb dL_law_2239 ?_
  refine lv_topi (fun xz2 exz2 => ?_)
  obtain rfl : xz2 = 2 := exz2.trans (by decide)
  refine va_sld hx hb hX hbl hbA hS (by rw [hL6]; unfold vp_in; decide) dL_law_2240 ?_
  refine W.eq (g2 := F0 m 2241 ls [.int (xs 2), .int (xs 1), .ref (q 0)]) rfl ?_
  refine lv_aload_n hx hb dL_law_2241 rfl (lv_at hl 0 rfl) ?_
  refine lv_iload_n hx hb dL_law_2242 rfl (lv_at hl 3 rfl) ?_
  refine lv_iconst (v := 3) hx hb dL_law_2243 (by decide) ?_
  refine lv_iadd hx hb dL_law_2244 ?_
  refine lv_topi (fun xz3 exz3 => ?_)
  obtain rfl : xz3 = 3 := exz3.trans (by decide)
  refine va_sld hx hb hX hbl hbA hS (by rw [hL6]; unfold vp_in; decide) dL_law_2245 ?_
  refine W.eq (g2 := F0 m 2246 ls [.int (xs 3), .int (xs 2), .int (xs 1), .ref (q 0)]) rfl ?_
  refine lv_aload_n hx hb dL_law_2246 rfl (lv_at hl 0 rfl) ?_
  refine lv_iload_n hx hb dL_law_2247 rfl (lv_at hl 3 rfl) ?_
  refine lv_iconst (v := 4) hx hb dL_law_2248 (by decide) ?_
  refine lv_iadd hx hb dL_law_2249 ?_
  refine lv_topi (fun xz4 exz4 => ?_)
  obtain rfl : xz4 = 4 := exz4.trans (by decide)
  refine va_sld hx hb hX hbl hbA hS (by rw [hL6]; unfold vp_in; decide) dL_law_2250 ?_
  refine W.eq (g2 := F0 m 2251 ls [.int (xs 4), .int (xs 3), .int (xs 2), .int (xs 1), .ref (q 0)]) rfl ?_
  refine lv_aload_n hx hb dL_law_2251 rfl (lv_at hl 0 rfl) ?_
  refine lv_iload_n hx hb dL_law_2252 rfl (lv_at hl 3 rfl) ?_
  refine lv_iconst (v := 5) hx hb dL_law_2253 (by decide) ?_
  refine lv_iadd hx hb dL_law_2254 ?_
  refine lv_topi (fun xz5 exz5 => ?_)
  obtain rfl : xz5 = 5 := exz5.trans (by decide)
  refine va_sld hx hb hX hbl hbA hS (by rw [hL6]; unfold vp_in; decide) dL_law_2255 ?_
  refine W.eq (g2 := F0 m 2256 ls [.int (xs 5), .int (xs 4), .int (xs 3), .int (xs 2), .int (xs 1), .ref (q 0)]) rfl ?_
  have hPc := hP.sub (ws' := [((q 0), .inr (11, [.ref (q 1), .ref (q 2), .ref (q 3), .ref (q 4), .ref (q 5), .ref (q 6), .ref (q 7), .ref (q 8), .ref (q 9), .ref (q 10), .ref (q 11), .ref (q 12), .ref (q 13), .ref (q 14), .ref (q 15)])), ((q 14), .inl ((k 20), 4, .inr (.inr (.inr (.inr (va_up (va_up (va_up (va_up (fun _ => none) 0 (some (q 43))) 1 (some (q 44))) 2 (some (q 45))) 3 (some (q 46)))))))), ((q 43), .inr (6, [.ref (q 47), .int 0, .int 0, .int 0])), ((q 44), .inr (6, [.ref (q 48), .int 0, .int 0, .int 0])), ((q 45), .inr (6, [.ref (q 49), .int 0, .int 0, .int 0])), ((q 46), .inr (6, [.ref (q 50), .int 0, .int 0, .int 0]))]) [0, 29, 30, 32, 34, 36] rfl
  have hKc := hK.sub (tys' := [((k 20), .object RX6)]) [20] rfl
  refine vp_callSi (va_Run.run (va_runV (As := [.int (xs 1), .int (xs 2), .int (xs 3), .int (xs 4), .int (xs 5)]) (rest := []) ⟨hx, hb, hml, hown, hts⟩ (f_X11_paste l dC dI ((q 0)) ((q 1)) ((q 2)) ((q 3)) ((q 4)) ((q 5)) ((q 6)) ((q 7)) ((q 8)) ((q 9)) ((q 10)) ((q 11)) ((q 12)) ((q 13)) ((q 14)) ((q 15)) ((q 43)) ((q 44)) ((q 45)) ((q 46)) ((q 47)) ((q 48)) ((q 49)) ((q 50)) ((k 20)) ((xs 1)) ((xs 2)) ((xs 3)) ((xs 4)) ((xs 5))) (cwV 5 hts (gk_V tw_1125 tw_1126 tw_1127 tw_157 wki_f_X11_paste wkg_f_X11_paste) rfl rfl rfl (by decide +kernel) ⟨Nat.le_of_ble_eq_true rfl, Nat.le_of_ble_eq_true rfl⟩) ⟨fun a U g mk q => by obtain ⟨q0, qP, qK⟩ := q; exact ⟨q0, qP, va_K.moved (u := U) (U := U.calling g mk a) (Vm.Alike.refl U.vm) qK⟩, va_recv hKc hPc (ci := 11) (q0 := 0) rfl rfl, fun U hU hW => ⟨rfl, by rw [hU]; exact hPc, va_K.moved hW.alike hKc⟩⟩ rfl rfl hl.1 rfl (lv_room (Nat.le_of_ble_eq_true rfl)) dL_law_2256 ⟨Nat.le_of_ble_eq_true rfl, Nat.le_of_ble_eq_true rfl⟩)) (fun oz7 gz6 => ?_)
  rcases gz6 with ⟨rfl, cz8⟩ | ⟨rfl, cz9, cz10⟩ | ⟨rfl, cz11, cz12, cz13⟩ | ⟨rfl, cz14, cz15, cz16, cz17⟩ | ⟨rfl, cz18, cz19, cz20, cz21⟩
  · skip
    refine lv_aload_n hx hb dL_law_2259 rfl (lv_at hl 2 rfl) ?_
    refine lv_aload_n hx hb dL_law_2260 rfl (lv_at hl 0 rfl) ?_
    refine lv_iload_n hx hb dL_law_2261 rfl (lv_at hl 3 rfl) ?_
    refine lv_iconst (v := 1) hx hb dL_law_2262 (by decide) ?_
    refine lv_iadd hx hb dL_law_2263 ?_
    refine lv_topi (fun xz22 exz22 => ?_)
    obtain rfl : xz22 = 1 := exz22.trans (by decide)
    refine va_sld hx hb hX hbl hbA hS (by rw [hL6]; unfold vp_in; decide) dL_law_2264 ?_
    refine W.eq (g2 := F0 m 2265 ls [.int (xs 1), .ref (r 0), .int (-2)]) rfl ?_
    refine lv_aload_n hx hb dL_law_2265 rfl (lv_at hl 0 rfl) ?_
    refine lv_iload_n hx hb dL_law_2266 rfl (lv_at hl 3 rfl) ?_
    refine lv_iconst (v := 2) hx hb dL_law_2267 (by decide) ?_
    refine lv_iadd hx hb dL_law_2268 ?_
    refine lv_topi (fun xz23 exz23 => ?_)
    obtain rfl : xz23 = 2 := exz23.trans (by decide)
    refine va_sld hx hb hX hbl hbA hS (by rw [hL6]; unfold vp_in; decide) dL_law_2269 ?_
    refine W.eq (g2 := F0 m 2270 ls [.int (xs 2), .int (xs 1), .ref (r 0), .int (-2)]) rfl ?_
    refine lv_aload_n hx hb dL_law_2270 rfl (lv_at hl 0 rfl) ?_
    refine lv_iload_n hx hb dL_law_2271 rfl (lv_at hl 3 rfl) ?_
    refine lv_iconst (v := 3) hx hb dL_law_2272 (by decide) ?_
    refine lv_iadd hx hb dL_law_2273 ?_
    refine lv_topi (fun xz24 exz24 => ?_)
    obtain rfl : xz24 = 3 := exz24.trans (by decide)
    refine va_sld hx hb hX hbl hbA hS (by rw [hL6]; unfold vp_in; decide) dL_law_2274 ?_
    refine W.eq (g2 := F0 m 2275 ls [.int (xs 3), .int (xs 2), .int (xs 1), .ref (r 0), .int (-2)]) rfl ?_
    refine lv_aload_n hx hb dL_law_2275 rfl (lv_at hl 0 rfl) ?_
    refine lv_iload_n hx hb dL_law_2276 rfl (lv_at hl 3 rfl) ?_
    refine lv_iconst (v := 4) hx hb dL_law_2277 (by decide) ?_
    refine lv_iadd hx hb dL_law_2278 ?_
    refine lv_topi (fun xz25 exz25 => ?_)
    obtain rfl : xz25 = 4 := exz25.trans (by decide)
    refine va_sld hx hb hX hbl hbA hS (by rw [hL6]; unfold vp_in; decide) dL_law_2279 ?_
    refine W.eq (g2 := F0 m 2280 ls [.int (xs 4), .int (xs 3), .int (xs 2), .int (xs 1), .ref (r 0), .int (-2)]) rfl ?_
    refine lv_aload_n hx hb dL_law_2280 rfl (lv_at hl 0 rfl) ?_
    refine lv_iload_n hx hb dL_law_2281 rfl (lv_at hl 3 rfl) ?_
    refine lv_iconst (v := 5) hx hb dL_law_2282 (by decide) ?_
    refine lv_iadd hx hb dL_law_2283 ?_
    refine lv_topi (fun xz26 exz26 => ?_)
    obtain rfl : xz26 = 5 := exz26.trans (by decide)
    refine va_sld hx hb hX hbl hbA hS (by rw [hL6]; unfold vp_in; decide) dL_law_2284 ?_
    refine W.eq (g2 := F0 m 2285 ls [.int (xs 5), .int (xs 4), .int (xs 3), .int (xs 2), .int (xs 1), .ref (r 0), .int (-2)]) rfl ?_
    have hPc := hP.sub (ws' := [((r 0), .inr (12, [.int 0, .ref (r 1), .ref (r 2), .ref (r 3), .ref (r 4), .ref (r 5), .int 0, .int 0, .int 0, .int 0, .int 0, .long 0, .int 0, .int 0, .int 0, .int (-1), .ref (r 6), .ref (r 7), .ref (r 8), .ref (r 9), .ref (r 10), .ref (r 11), .ref (r 12), .ref (r 13), .int 0, .int 0, .int 0, .ref (r 14), .ref (r 15), .ref (r 16), .ref (r 17), .ref (r 18), .ref (r 19), .ref (r 20), .ref (r 21), .ref (r 22), .ref (r 23), .ref (r 24), .ref (r 25), .ref (r 26), .ref (r 27), .ref (r 28), .ref (r 29), .int 0, .int 0, .int 0, .ref (r 30), .int 0, .int 0, .int 0, .int 0, .int 0, .int 0, .ref (r 31), .int 0, .int 0, .int 0, .ref (r 32), .ref (r 33)])), ((r 1), .inl ((j 0), 4, .inl (upd (upd (upd (upd (fun _ => 0) 0 (-1)) 1 (-1)) 2 (-1)) 3 (-1))))]) [78, 79] rfl
    have hKc := hK.sub (tys' := [((j 0), .int)]) [56] rfl
    have hDc := hD.sub (ws' := [((r 0), .inr (12, [.int 0, .ref (r 1), .ref (r 2), .ref (r 3), .ref (r 4), .ref (r 5), .int 0, .int 0, .int 0, .int 0, .int 0, .long 0, .int 0, .int 0, .int 0, .int (-1), .ref (r 6), .ref (r 7), .ref (r 8), .ref (r 9), .ref (r 10), .ref (r 11), .ref (r 12), .ref (r 13), .int 0, .int 0, .int 0, .ref (r 14), .ref (r 15), .ref (r 16), .ref (r 17), .ref (r 18), .ref (r 19), .ref (r 20), .ref (r 21), .ref (r 22), .ref (r 23), .ref (r 24), .ref (r 25), .ref (r 26), .ref (r 27), .ref (r 28), .ref (r 29), .int 0, .int 0, .int 0, .ref (r 30), .int 0, .int 0, .int 0, .int 0, .int 0, .int 0, .ref (r 31), .int 0, .int 0, .int 0, .ref (r 32), .ref (r 33)])), ((r 1), .inl ((j 0), 4, .inl (upd (upd (upd (upd (fun _ => 0) 0 (-1)) 1 (-1)) 2 (-1)) 3 (-1))))]) [78, 79] (by decide) rfl
    have hFc := va_free (wc := [((r 0), .inr (12, [.int 0, .ref (r 1), .ref (r 2), .ref (r 3), .ref (r 4), .ref (r 5), .int 0, .int 0, .int 0, .int 0, .int 0, .long 0, .int 0, .int 0, .int 0, .int (-1), .ref (r 6), .ref (r 7), .ref (r 8), .ref (r 9), .ref (r 10), .ref (r 11), .ref (r 12), .ref (r 13), .int 0, .int 0, .int 0, .ref (r 14), .ref (r 15), .ref (r 16), .ref (r 17), .ref (r 18), .ref (r 19), .ref (r 20), .ref (r 21), .ref (r 22), .ref (r 23), .ref (r 24), .ref (r 25), .ref (r 26), .ref (r 27), .ref (r 28), .ref (r 29), .int 0, .int 0, .int 0, .ref (r 30), .int 0, .int 0, .int 0, .int 0, .int 0, .int 0, .ref (r 31), .int 0, .int 0, .int 0, .ref (r 32), .ref (r 33)])), ((r 1), .inl ((j 0), 4, .inl (upd (upd (upd (upd (fun _ => 0) 0 (-1)) 1 (-1)) 2 (-1)) 3 (-1))))]) hD hS hA [78, 79] rfl
    refine va_calli (va_runV (As := [.int (xs 1), .int (xs 2), .int (xs 3), .int (xs 4), .int (xs 5)]) (rest := [.int (-2)]) ⟨hx, hb, hml, hown, hts⟩ (f_X12_paste l dC dI H.size ((r 0)) ((r 1)) ((r 2)) ((r 3)) ((r 4)) ((r 5)) ((r 6)) ((r 7)) ((r 8)) ((r 9)) ((r 10)) ((r 11)) ((r 12)) ((r 13)) ((r 14)) ((r 15)) ((r 16)) ((r 17)) ((r 18)) ((r 19)) ((r 20)) ((r 21)) ((r 22)) ((r 23)) ((r 24)) ((r 25)) ((r 26)) ((r 27)) ((r 28)) ((r 29)) ((r 30)) ((r 31)) ((r 32)) ((r 33)) ((j 0)) ((xs 1)) ((xs 2)) ((xs 3)) ((xs 4)) ((xs 5))) (cwV 5 hts (gk_V tw_1128 tw_1129 tw_1130 tw_505 wki_f_X12_paste wkg_f_X12_paste) rfl rfl rfl (by decide +kernel) ⟨Nat.le_of_ble_eq_true rfl, Nat.le_of_ble_eq_true rfl⟩) ⟨fun a U g mk q => by obtain ⟨q0, q1, qP, qK, qD⟩ := q; exact ⟨q0, q1, qP, va_K.moved (u := U) (U := U.calling g mk a) (Vm.Alike.refl U.vm) qK, qD⟩, va_recv hKc hPc (ci := 12) (q0 := 0) rfl rfl, fun U hU hW => ⟨rfl, by rw [hU], by rw [hU]; exact hPc, va_K.moved hW.alike hKc, hDc.weaken (fun _ _ _ _ => trivial)⟩⟩ rfl rfl hl.1 rfl (lv_room (Nat.le_of_ble_eq_true rfl)) dL_law_2285 ⟨Nat.le_of_ble_eq_true rfl, Nat.le_of_ble_eq_true rfl⟩) hS (fun q _ h => hFc q h) hFc (fun oz28 u t H1 locs ht hvm gz27 hB hz1 hk1 hS => ?_)
    generalize H1 = H at hS ⊢
    refine W.widen (k := 305) (n := 4995) (Nat.le_of_ble_eq_true rfl) (Nat.le_of_ble_eq_true rfl) ?_
    rcases gz27 with ⟨rfl, cz29⟩ | ⟨rfl, cz30, cz31⟩ | ⟨rfl, cz32, cz33, cz34⟩ | ⟨rfl, cz35, cz36, cz37, cz38⟩ | ⟨rfl, cz39, cz40, cz41, cz42⟩
    · skip
      refine lv_icmp_eq (tgt := 2293) hx hb dL_law_2288 (by decide) (fun cz43 => ?_) (fun cz43 => ?_)
      · skip
        exact law_end (dC := dC) (dI := dI) (Nat.le_of_eq hL6) C0 A hAe (q 0) (r 0) H locs hS ls hl
      · skip
        exact absurd cz43 (by decide)
    · skip
      have z0 : (xs 1).toInt < (0 : Int) := zi_lt.mp cz8
      have z1 : ¬ (xs 1).toInt < (0 : Int) := by intro h9; apply cz30; rw [zi_ltL]; simp only [Int32.toInt_toInt64]; exact h9
      omega
    · skip
      have z0 : (xs 1).toInt < (0 : Int) := zi_lt.mp cz8
      have z1 : ¬ (xs 1).toInt < (0 : Int) := by intro h9; apply cz32; rw [zi_ltL]; simp only [Int32.toInt_toInt64]; exact h9
      omega
    · skip
      have z0 : (xs 1).toInt < (0 : Int) := zi_lt.mp cz8
      have z1 : ¬ (xs 1).toInt < (0 : Int) := by intro h9; apply cz35; rw [zi_ltL]; simp only [Int32.toInt_toInt64]; exact h9
      omega
    · skip
      have z0 : (xs 1).toInt < (0 : Int) := zi_lt.mp cz8
      have z1 : ¬ (xs 1).toInt < (0 : Int) := by intro h9; apply cz39; rw [zi_ltL]; simp only [Int32.toInt_toInt64]; exact h9
      omega
  · skip
    refine lv_aload_n hx hb dL_law_2259 rfl (lv_at hl 2 rfl) ?_
    refine lv_aload_n hx hb dL_law_2260 rfl (lv_at hl 0 rfl) ?_
    refine lv_iload_n hx hb dL_law_2261 rfl (lv_at hl 3 rfl) ?_
    refine lv_iconst (v := 1) hx hb dL_law_2262 (by decide) ?_
    refine lv_iadd hx hb dL_law_2263 ?_
    refine lv_topi (fun xz44 exz44 => ?_)
    obtain rfl : xz44 = 1 := exz44.trans (by decide)
    refine va_sld hx hb hX hbl hbA hS (by rw [hL6]; unfold vp_in; decide) dL_law_2264 ?_
    refine W.eq (g2 := F0 m 2265 ls [.int (xs 1), .ref (r 0), .int (-2)]) rfl ?_
    refine lv_aload_n hx hb dL_law_2265 rfl (lv_at hl 0 rfl) ?_
    refine lv_iload_n hx hb dL_law_2266 rfl (lv_at hl 3 rfl) ?_
    refine lv_iconst (v := 2) hx hb dL_law_2267 (by decide) ?_
    refine lv_iadd hx hb dL_law_2268 ?_
    refine lv_topi (fun xz45 exz45 => ?_)
    obtain rfl : xz45 = 2 := exz45.trans (by decide)
    refine va_sld hx hb hX hbl hbA hS (by rw [hL6]; unfold vp_in; decide) dL_law_2269 ?_
    refine W.eq (g2 := F0 m 2270 ls [.int (xs 2), .int (xs 1), .ref (r 0), .int (-2)]) rfl ?_
    refine lv_aload_n hx hb dL_law_2270 rfl (lv_at hl 0 rfl) ?_
    refine lv_iload_n hx hb dL_law_2271 rfl (lv_at hl 3 rfl) ?_
    refine lv_iconst (v := 3) hx hb dL_law_2272 (by decide) ?_
    refine lv_iadd hx hb dL_law_2273 ?_
    refine lv_topi (fun xz46 exz46 => ?_)
    obtain rfl : xz46 = 3 := exz46.trans (by decide)
    refine va_sld hx hb hX hbl hbA hS (by rw [hL6]; unfold vp_in; decide) dL_law_2274 ?_
    refine W.eq (g2 := F0 m 2275 ls [.int (xs 3), .int (xs 2), .int (xs 1), .ref (r 0), .int (-2)]) rfl ?_
    refine lv_aload_n hx hb dL_law_2275 rfl (lv_at hl 0 rfl) ?_
    refine lv_iload_n hx hb dL_law_2276 rfl (lv_at hl 3 rfl) ?_
    refine lv_iconst (v := 4) hx hb dL_law_2277 (by decide) ?_
    refine lv_iadd hx hb dL_law_2278 ?_
    refine lv_topi (fun xz47 exz47 => ?_)
    obtain rfl : xz47 = 4 := exz47.trans (by decide)
    refine va_sld hx hb hX hbl hbA hS (by rw [hL6]; unfold vp_in; decide) dL_law_2279 ?_
    refine W.eq (g2 := F0 m 2280 ls [.int (xs 4), .int (xs 3), .int (xs 2), .int (xs 1), .ref (r 0), .int (-2)]) rfl ?_
    refine lv_aload_n hx hb dL_law_2280 rfl (lv_at hl 0 rfl) ?_
    refine lv_iload_n hx hb dL_law_2281 rfl (lv_at hl 3 rfl) ?_
    refine lv_iconst (v := 5) hx hb dL_law_2282 (by decide) ?_
    refine lv_iadd hx hb dL_law_2283 ?_
    refine lv_topi (fun xz48 exz48 => ?_)
    obtain rfl : xz48 = 5 := exz48.trans (by decide)
    refine va_sld hx hb hX hbl hbA hS (by rw [hL6]; unfold vp_in; decide) dL_law_2284 ?_
    refine W.eq (g2 := F0 m 2285 ls [.int (xs 5), .int (xs 4), .int (xs 3), .int (xs 2), .int (xs 1), .ref (r 0), .int (-2)]) rfl ?_
    have hPc := hP.sub (ws' := [((r 0), .inr (12, [.int 0, .ref (r 1), .ref (r 2), .ref (r 3), .ref (r 4), .ref (r 5), .int 0, .int 0, .int 0, .int 0, .int 0, .long 0, .int 0, .int 0, .int 0, .int (-1), .ref (r 6), .ref (r 7), .ref (r 8), .ref (r 9), .ref (r 10), .ref (r 11), .ref (r 12), .ref (r 13), .int 0, .int 0, .int 0, .ref (r 14), .ref (r 15), .ref (r 16), .ref (r 17), .ref (r 18), .ref (r 19), .ref (r 20), .ref (r 21), .ref (r 22), .ref (r 23), .ref (r 24), .ref (r 25), .ref (r 26), .ref (r 27), .ref (r 28), .ref (r 29), .int 0, .int 0, .int 0, .ref (r 30), .int 0, .int 0, .int 0, .int 0, .int 0, .int 0, .ref (r 31), .int 0, .int 0, .int 0, .ref (r 32), .ref (r 33)])), ((r 1), .inl ((j 0), 4, .inl (upd (upd (upd (upd (fun _ => 0) 0 (-1)) 1 (-1)) 2 (-1)) 3 (-1))))]) [78, 79] rfl
    have hKc := hK.sub (tys' := [((j 0), .int)]) [56] rfl
    have hDc := hD.sub (ws' := [((r 0), .inr (12, [.int 0, .ref (r 1), .ref (r 2), .ref (r 3), .ref (r 4), .ref (r 5), .int 0, .int 0, .int 0, .int 0, .int 0, .long 0, .int 0, .int 0, .int 0, .int (-1), .ref (r 6), .ref (r 7), .ref (r 8), .ref (r 9), .ref (r 10), .ref (r 11), .ref (r 12), .ref (r 13), .int 0, .int 0, .int 0, .ref (r 14), .ref (r 15), .ref (r 16), .ref (r 17), .ref (r 18), .ref (r 19), .ref (r 20), .ref (r 21), .ref (r 22), .ref (r 23), .ref (r 24), .ref (r 25), .ref (r 26), .ref (r 27), .ref (r 28), .ref (r 29), .int 0, .int 0, .int 0, .ref (r 30), .int 0, .int 0, .int 0, .int 0, .int 0, .int 0, .ref (r 31), .int 0, .int 0, .int 0, .ref (r 32), .ref (r 33)])), ((r 1), .inl ((j 0), 4, .inl (upd (upd (upd (upd (fun _ => 0) 0 (-1)) 1 (-1)) 2 (-1)) 3 (-1))))]) [78, 79] (by decide) rfl
    have hFc := va_free (wc := [((r 0), .inr (12, [.int 0, .ref (r 1), .ref (r 2), .ref (r 3), .ref (r 4), .ref (r 5), .int 0, .int 0, .int 0, .int 0, .int 0, .long 0, .int 0, .int 0, .int 0, .int (-1), .ref (r 6), .ref (r 7), .ref (r 8), .ref (r 9), .ref (r 10), .ref (r 11), .ref (r 12), .ref (r 13), .int 0, .int 0, .int 0, .ref (r 14), .ref (r 15), .ref (r 16), .ref (r 17), .ref (r 18), .ref (r 19), .ref (r 20), .ref (r 21), .ref (r 22), .ref (r 23), .ref (r 24), .ref (r 25), .ref (r 26), .ref (r 27), .ref (r 28), .ref (r 29), .int 0, .int 0, .int 0, .ref (r 30), .int 0, .int 0, .int 0, .int 0, .int 0, .int 0, .ref (r 31), .int 0, .int 0, .int 0, .ref (r 32), .ref (r 33)])), ((r 1), .inl ((j 0), 4, .inl (upd (upd (upd (upd (fun _ => 0) 0 (-1)) 1 (-1)) 2 (-1)) 3 (-1))))]) hD hS hA [78, 79] rfl
    refine va_calli (va_runV (As := [.int (xs 1), .int (xs 2), .int (xs 3), .int (xs 4), .int (xs 5)]) (rest := [.int (-2)]) ⟨hx, hb, hml, hown, hts⟩ (f_X12_paste l dC dI H.size ((r 0)) ((r 1)) ((r 2)) ((r 3)) ((r 4)) ((r 5)) ((r 6)) ((r 7)) ((r 8)) ((r 9)) ((r 10)) ((r 11)) ((r 12)) ((r 13)) ((r 14)) ((r 15)) ((r 16)) ((r 17)) ((r 18)) ((r 19)) ((r 20)) ((r 21)) ((r 22)) ((r 23)) ((r 24)) ((r 25)) ((r 26)) ((r 27)) ((r 28)) ((r 29)) ((r 30)) ((r 31)) ((r 32)) ((r 33)) ((j 0)) ((xs 1)) ((xs 2)) ((xs 3)) ((xs 4)) ((xs 5))) (cwV 5 hts (gk_V tw_1128 tw_1129 tw_1130 tw_505 wki_f_X12_paste wkg_f_X12_paste) rfl rfl rfl (by decide +kernel) ⟨Nat.le_of_ble_eq_true rfl, Nat.le_of_ble_eq_true rfl⟩) ⟨fun a U g mk q => by obtain ⟨q0, q1, qP, qK, qD⟩ := q; exact ⟨q0, q1, qP, va_K.moved (u := U) (U := U.calling g mk a) (Vm.Alike.refl U.vm) qK, qD⟩, va_recv hKc hPc (ci := 12) (q0 := 0) rfl rfl, fun U hU hW => ⟨rfl, by rw [hU], by rw [hU]; exact hPc, va_K.moved hW.alike hKc, hDc.weaken (fun _ _ _ _ => trivial)⟩⟩ rfl rfl hl.1 rfl (lv_room (Nat.le_of_ble_eq_true rfl)) dL_law_2285 ⟨Nat.le_of_ble_eq_true rfl, Nat.le_of_ble_eq_true rfl⟩) hS (fun q _ h => hFc q h) hFc (fun oz50 u t H1 locs ht hvm gz49 hB hz1 hk1 hS => ?_)
    generalize H1 = H at hS ⊢
    refine W.widen (k := 305) (n := 4995) (Nat.le_of_ble_eq_true rfl) (Nat.le_of_ble_eq_true rfl) ?_
    rcases gz49 with ⟨rfl, cz51⟩ | ⟨rfl, cz52, cz53⟩ | ⟨rfl, cz54, cz55, cz56⟩ | ⟨rfl, cz57, cz58, cz59, cz60⟩ | ⟨rfl, cz61, cz62, cz63, cz64⟩
    · skip
      have z0 : ¬ (xs 1).toInt < (0 : Int) := fun h9 => cz9 (zi_lt.mpr h9)
      have z1 : (4 : Int) ≤ (xs 1).toInt := zi_le.mp cz10
      have z2 : (xs 1).toInt < (0 : Int) := by have h9 := zi_ltL.mp cz51; simp only [Int32.toInt_toInt64] at h9; exact h9
      omega
    · skip
      refine lv_icmp_eq (tgt := 2293) hx hb dL_law_2288 (by decide) (fun cz65 => ?_) (fun cz65 => ?_)
      · skip
        exact law_end (dC := dC) (dI := dI) (Nat.le_of_eq hL6) C0 A hAe (q 0) (r 0) H locs hS ls hl
      · skip
        exact absurd cz65 (by decide)
    · skip
      have z0 : ¬ (xs 1).toInt < (0 : Int) := fun h9 => cz9 (zi_lt.mpr h9)
      have z1 : (4 : Int) ≤ (xs 1).toInt := zi_le.mp cz10
      have z2 : ¬ (xs 1).toInt < (0 : Int) := by intro h9; apply cz54; rw [zi_ltL]; simp only [Int32.toInt_toInt64]; exact h9
      have z3 : ¬ (3 : Int) < (xs 1).toInt := by intro h9; apply cz55; rw [zi_ltL]; simp only [Int32.toInt_toInt64]; exact h9
      omega
    · skip
      have z0 : ¬ (xs 1).toInt < (0 : Int) := fun h9 => cz9 (zi_lt.mpr h9)
      have z1 : (4 : Int) ≤ (xs 1).toInt := zi_le.mp cz10
      have z2 : ¬ (xs 1).toInt < (0 : Int) := by intro h9; apply cz57; rw [zi_ltL]; simp only [Int32.toInt_toInt64]; exact h9
      have z3 : ¬ (3 : Int) < (xs 1).toInt := by intro h9; apply cz58; rw [zi_ltL]; simp only [Int32.toInt_toInt64]; exact h9
      omega
    · skip
      have z0 : ¬ (xs 1).toInt < (0 : Int) := fun h9 => cz9 (zi_lt.mpr h9)
      have z1 : (4 : Int) ≤ (xs 1).toInt := zi_le.mp cz10
      have z2 : ¬ (xs 1).toInt < (0 : Int) := by intro h9; apply cz61; rw [zi_ltL]; simp only [Int32.toInt_toInt64]; exact h9
      have z3 : ¬ (3 : Int) < (xs 1).toInt := by intro h9; apply cz62; rw [zi_ltL]; simp only [Int32.toInt_toInt64]; exact h9
      omega
  · skip
    refine lv_aload_n hx hb dL_law_2259 rfl (lv_at hl 2 rfl) ?_
    refine lv_aload_n hx hb dL_law_2260 rfl (lv_at hl 0 rfl) ?_
    refine lv_iload_n hx hb dL_law_2261 rfl (lv_at hl 3 rfl) ?_
    refine lv_iconst (v := 1) hx hb dL_law_2262 (by decide) ?_
    refine lv_iadd hx hb dL_law_2263 ?_
    refine lv_topi (fun xz66 exz66 => ?_)
    obtain rfl : xz66 = 1 := exz66.trans (by decide)
    refine va_sld hx hb hX hbl hbA hS (by rw [hL6]; unfold vp_in; decide) dL_law_2264 ?_
    refine W.eq (g2 := F0 m 2265 ls [.int (xs 1), .ref (r 0), .int (-2)]) rfl ?_
    refine lv_aload_n hx hb dL_law_2265 rfl (lv_at hl 0 rfl) ?_
    refine lv_iload_n hx hb dL_law_2266 rfl (lv_at hl 3 rfl) ?_
    refine lv_iconst (v := 2) hx hb dL_law_2267 (by decide) ?_
    refine lv_iadd hx hb dL_law_2268 ?_
    refine lv_topi (fun xz67 exz67 => ?_)
    obtain rfl : xz67 = 2 := exz67.trans (by decide)
    refine va_sld hx hb hX hbl hbA hS (by rw [hL6]; unfold vp_in; decide) dL_law_2269 ?_
    refine W.eq (g2 := F0 m 2270 ls [.int (xs 2), .int (xs 1), .ref (r 0), .int (-2)]) rfl ?_
    refine lv_aload_n hx hb dL_law_2270 rfl (lv_at hl 0 rfl) ?_
    refine lv_iload_n hx hb dL_law_2271 rfl (lv_at hl 3 rfl) ?_
    refine lv_iconst (v := 3) hx hb dL_law_2272 (by decide) ?_
    refine lv_iadd hx hb dL_law_2273 ?_
    refine lv_topi (fun xz68 exz68 => ?_)
    obtain rfl : xz68 = 3 := exz68.trans (by decide)
    refine va_sld hx hb hX hbl hbA hS (by rw [hL6]; unfold vp_in; decide) dL_law_2274 ?_
    refine W.eq (g2 := F0 m 2275 ls [.int (xs 3), .int (xs 2), .int (xs 1), .ref (r 0), .int (-2)]) rfl ?_
    refine lv_aload_n hx hb dL_law_2275 rfl (lv_at hl 0 rfl) ?_
    refine lv_iload_n hx hb dL_law_2276 rfl (lv_at hl 3 rfl) ?_
    refine lv_iconst (v := 4) hx hb dL_law_2277 (by decide) ?_
    refine lv_iadd hx hb dL_law_2278 ?_
    refine lv_topi (fun xz69 exz69 => ?_)
    obtain rfl : xz69 = 4 := exz69.trans (by decide)
    refine va_sld hx hb hX hbl hbA hS (by rw [hL6]; unfold vp_in; decide) dL_law_2279 ?_
    refine W.eq (g2 := F0 m 2280 ls [.int (xs 4), .int (xs 3), .int (xs 2), .int (xs 1), .ref (r 0), .int (-2)]) rfl ?_
    refine lv_aload_n hx hb dL_law_2280 rfl (lv_at hl 0 rfl) ?_
    refine lv_iload_n hx hb dL_law_2281 rfl (lv_at hl 3 rfl) ?_
    refine lv_iconst (v := 5) hx hb dL_law_2282 (by decide) ?_
    refine lv_iadd hx hb dL_law_2283 ?_
    refine lv_topi (fun xz70 exz70 => ?_)
    obtain rfl : xz70 = 5 := exz70.trans (by decide)
    refine va_sld hx hb hX hbl hbA hS (by rw [hL6]; unfold vp_in; decide) dL_law_2284 ?_
    refine W.eq (g2 := F0 m 2285 ls [.int (xs 5), .int (xs 4), .int (xs 3), .int (xs 2), .int (xs 1), .ref (r 0), .int (-2)]) rfl ?_
    have hPc := hP.sub (ws' := [((r 0), .inr (12, [.int 0, .ref (r 1), .ref (r 2), .ref (r 3), .ref (r 4), .ref (r 5), .int 0, .int 0, .int 0, .int 0, .int 0, .long 0, .int 0, .int 0, .int 0, .int (-1), .ref (r 6), .ref (r 7), .ref (r 8), .ref (r 9), .ref (r 10), .ref (r 11), .ref (r 12), .ref (r 13), .int 0, .int 0, .int 0, .ref (r 14), .ref (r 15), .ref (r 16), .ref (r 17), .ref (r 18), .ref (r 19), .ref (r 20), .ref (r 21), .ref (r 22), .ref (r 23), .ref (r 24), .ref (r 25), .ref (r 26), .ref (r 27), .ref (r 28), .ref (r 29), .int 0, .int 0, .int 0, .ref (r 30), .int 0, .int 0, .int 0, .int 0, .int 0, .int 0, .ref (r 31), .int 0, .int 0, .int 0, .ref (r 32), .ref (r 33)])), ((r 1), .inl ((j 0), 4, .inl (upd (upd (upd (upd (fun _ => 0) 0 (-1)) 1 (-1)) 2 (-1)) 3 (-1))))]) [78, 79] rfl
    have hKc := hK.sub (tys' := [((j 0), .int)]) [56] rfl
    have hDc := hD.sub (ws' := [((r 0), .inr (12, [.int 0, .ref (r 1), .ref (r 2), .ref (r 3), .ref (r 4), .ref (r 5), .int 0, .int 0, .int 0, .int 0, .int 0, .long 0, .int 0, .int 0, .int 0, .int (-1), .ref (r 6), .ref (r 7), .ref (r 8), .ref (r 9), .ref (r 10), .ref (r 11), .ref (r 12), .ref (r 13), .int 0, .int 0, .int 0, .ref (r 14), .ref (r 15), .ref (r 16), .ref (r 17), .ref (r 18), .ref (r 19), .ref (r 20), .ref (r 21), .ref (r 22), .ref (r 23), .ref (r 24), .ref (r 25), .ref (r 26), .ref (r 27), .ref (r 28), .ref (r 29), .int 0, .int 0, .int 0, .ref (r 30), .int 0, .int 0, .int 0, .int 0, .int 0, .int 0, .ref (r 31), .int 0, .int 0, .int 0, .ref (r 32), .ref (r 33)])), ((r 1), .inl ((j 0), 4, .inl (upd (upd (upd (upd (fun _ => 0) 0 (-1)) 1 (-1)) 2 (-1)) 3 (-1))))]) [78, 79] (by decide) rfl
    have hFc := va_free (wc := [((r 0), .inr (12, [.int 0, .ref (r 1), .ref (r 2), .ref (r 3), .ref (r 4), .ref (r 5), .int 0, .int 0, .int 0, .int 0, .int 0, .long 0, .int 0, .int 0, .int 0, .int (-1), .ref (r 6), .ref (r 7), .ref (r 8), .ref (r 9), .ref (r 10), .ref (r 11), .ref (r 12), .ref (r 13), .int 0, .int 0, .int 0, .ref (r 14), .ref (r 15), .ref (r 16), .ref (r 17), .ref (r 18), .ref (r 19), .ref (r 20), .ref (r 21), .ref (r 22), .ref (r 23), .ref (r 24), .ref (r 25), .ref (r 26), .ref (r 27), .ref (r 28), .ref (r 29), .int 0, .int 0, .int 0, .ref (r 30), .int 0, .int 0, .int 0, .int 0, .int 0, .int 0, .ref (r 31), .int 0, .int 0, .int 0, .ref (r 32), .ref (r 33)])), ((r 1), .inl ((j 0), 4, .inl (upd (upd (upd (upd (fun _ => 0) 0 (-1)) 1 (-1)) 2 (-1)) 3 (-1))))]) hD hS hA [78, 79] rfl
    refine va_calli (va_runV (As := [.int (xs 1), .int (xs 2), .int (xs 3), .int (xs 4), .int (xs 5)]) (rest := [.int (-2)]) ⟨hx, hb, hml, hown, hts⟩ (f_X12_paste l dC dI H.size ((r 0)) ((r 1)) ((r 2)) ((r 3)) ((r 4)) ((r 5)) ((r 6)) ((r 7)) ((r 8)) ((r 9)) ((r 10)) ((r 11)) ((r 12)) ((r 13)) ((r 14)) ((r 15)) ((r 16)) ((r 17)) ((r 18)) ((r 19)) ((r 20)) ((r 21)) ((r 22)) ((r 23)) ((r 24)) ((r 25)) ((r 26)) ((r 27)) ((r 28)) ((r 29)) ((r 30)) ((r 31)) ((r 32)) ((r 33)) ((j 0)) ((xs 1)) ((xs 2)) ((xs 3)) ((xs 4)) ((xs 5))) (cwV 5 hts (gk_V tw_1128 tw_1129 tw_1130 tw_505 wki_f_X12_paste wkg_f_X12_paste) rfl rfl rfl (by decide +kernel) ⟨Nat.le_of_ble_eq_true rfl, Nat.le_of_ble_eq_true rfl⟩) ⟨fun a U g mk q => by obtain ⟨q0, q1, qP, qK, qD⟩ := q; exact ⟨q0, q1, qP, va_K.moved (u := U) (U := U.calling g mk a) (Vm.Alike.refl U.vm) qK, qD⟩, va_recv hKc hPc (ci := 12) (q0 := 0) rfl rfl, fun U hU hW => ⟨rfl, by rw [hU], by rw [hU]; exact hPc, va_K.moved hW.alike hKc, hDc.weaken (fun _ _ _ _ => trivial)⟩⟩ rfl rfl hl.1 rfl (lv_room (Nat.le_of_ble_eq_true rfl)) dL_law_2285 ⟨Nat.le_of_ble_eq_true rfl, Nat.le_of_ble_eq_true rfl⟩) hS (fun q _ h => hFc q h) hFc (fun oz72 u t H1 locs ht hvm gz71 hB hz1 hk1 hS => ?_)
    generalize H1 = H at hS ⊢
    refine W.widen (k := 305) (n := 4995) (Nat.le_of_ble_eq_true rfl) (Nat.le_of_ble_eq_true rfl) ?_
    rcases gz71 with ⟨rfl, cz73⟩ | ⟨rfl, cz74, cz75⟩ | ⟨rfl, cz76, cz77, cz78⟩ | ⟨rfl, cz79, cz80, cz81, cz82⟩ | ⟨rfl, cz83, cz84, cz85, cz86⟩
    · skip
      have z0 : ¬ (xs 1).toInt < (0 : Int) := fun h9 => cz11 (zi_lt.mpr h9)
      have z1 : ¬ (4 : Int) ≤ (xs 1).toInt := fun h9 => cz12 (zi_le.mpr h9)
      have z3 : (xs 1).toInt < (0 : Int) := by have h9 := zi_ltL.mp cz73; simp only [Int32.toInt_toInt64] at h9; exact h9
      omega
    · skip
      have z0 : ¬ (xs 1).toInt < (0 : Int) := fun h9 => cz11 (zi_lt.mpr h9)
      have z1 : ¬ (4 : Int) ≤ (xs 1).toInt := fun h9 => cz12 (zi_le.mpr h9)
      have z3 : ¬ (xs 1).toInt < (0 : Int) := by intro h9; apply cz74; rw [zi_ltL]; simp only [Int32.toInt_toInt64]; exact h9
      have z4 : (3 : Int) < (xs 1).toInt := by have h9 := zi_ltL.mp cz75; simp only [Int32.toInt_toInt64] at h9; exact h9
      omega
    · skip
      refine lv_icmp_eq (tgt := 2293) hx hb dL_law_2288 (by decide) (fun cz87 => ?_) (fun cz87 => ?_)
      · skip
        exact law_end (dC := dC) (dI := dI) (Nat.le_of_eq hL6) C0 A hAe (q 0) (r 0) H locs hS ls hl
      · skip
        exact absurd cz87 (by decide)
    · skip
      have z2 : (xs 3).toInt < (0 : Int) := zi_lt.mp cz13
      have z5 : ¬ (xs 3).toInt < (0 : Int) := by intro h9; apply cz81; rw [zi_ltL]; simp only [Int32.toInt_toInt64]; exact h9
      omega
    · skip
      have z2 : (xs 3).toInt < (0 : Int) := zi_lt.mp cz13
      have z5 : ¬ (xs 3).toInt < (0 : Int) := by intro h9; apply cz85; rw [zi_ltL]; simp only [Int32.toInt_toInt64]; exact h9
      omega
  · skip
    refine lv_aload_n hx hb dL_law_2259 rfl (lv_at hl 2 rfl) ?_
    refine lv_aload_n hx hb dL_law_2260 rfl (lv_at hl 0 rfl) ?_
    refine lv_iload_n hx hb dL_law_2261 rfl (lv_at hl 3 rfl) ?_
    refine lv_iconst (v := 1) hx hb dL_law_2262 (by decide) ?_
    refine lv_iadd hx hb dL_law_2263 ?_
    refine lv_topi (fun xz88 exz88 => ?_)
    obtain rfl : xz88 = 1 := exz88.trans (by decide)
    refine va_sld hx hb hX hbl hbA hS (by rw [hL6]; unfold vp_in; decide) dL_law_2264 ?_
    refine W.eq (g2 := F0 m 2265 ls [.int (xs 1), .ref (r 0), .int (-2)]) rfl ?_
    refine lv_aload_n hx hb dL_law_2265 rfl (lv_at hl 0 rfl) ?_
    refine lv_iload_n hx hb dL_law_2266 rfl (lv_at hl 3 rfl) ?_
    refine lv_iconst (v := 2) hx hb dL_law_2267 (by decide) ?_
    refine lv_iadd hx hb dL_law_2268 ?_
    refine lv_topi (fun xz89 exz89 => ?_)
    obtain rfl : xz89 = 2 := exz89.trans (by decide)
    refine va_sld hx hb hX hbl hbA hS (by rw [hL6]; unfold vp_in; decide) dL_law_2269 ?_
    refine W.eq (g2 := F0 m 2270 ls [.int (xs 2), .int (xs 1), .ref (r 0), .int (-2)]) rfl ?_
    refine lv_aload_n hx hb dL_law_2270 rfl (lv_at hl 0 rfl) ?_
    refine lv_iload_n hx hb dL_law_2271 rfl (lv_at hl 3 rfl) ?_
    refine lv_iconst (v := 3) hx hb dL_law_2272 (by decide) ?_
    refine lv_iadd hx hb dL_law_2273 ?_
    refine lv_topi (fun xz90 exz90 => ?_)
    obtain rfl : xz90 = 3 := exz90.trans (by decide)
    refine va_sld hx hb hX hbl hbA hS (by rw [hL6]; unfold vp_in; decide) dL_law_2274 ?_
    refine W.eq (g2 := F0 m 2275 ls [.int (xs 3), .int (xs 2), .int (xs 1), .ref (r 0), .int (-2)]) rfl ?_
    refine lv_aload_n hx hb dL_law_2275 rfl (lv_at hl 0 rfl) ?_
    refine lv_iload_n hx hb dL_law_2276 rfl (lv_at hl 3 rfl) ?_
    refine lv_iconst (v := 4) hx hb dL_law_2277 (by decide) ?_
    refine lv_iadd hx hb dL_law_2278 ?_
    refine lv_topi (fun xz91 exz91 => ?_)
    obtain rfl : xz91 = 4 := exz91.trans (by decide)
    refine va_sld hx hb hX hbl hbA hS (by rw [hL6]; unfold vp_in; decide) dL_law_2279 ?_
    refine W.eq (g2 := F0 m 2280 ls [.int (xs 4), .int (xs 3), .int (xs 2), .int (xs 1), .ref (r 0), .int (-2)]) rfl ?_
    refine lv_aload_n hx hb dL_law_2280 rfl (lv_at hl 0 rfl) ?_
    refine lv_iload_n hx hb dL_law_2281 rfl (lv_at hl 3 rfl) ?_
    refine lv_iconst (v := 5) hx hb dL_law_2282 (by decide) ?_
    refine lv_iadd hx hb dL_law_2283 ?_
    refine lv_topi (fun xz92 exz92 => ?_)
    obtain rfl : xz92 = 5 := exz92.trans (by decide)
    refine va_sld hx hb hX hbl hbA hS (by rw [hL6]; unfold vp_in; decide) dL_law_2284 ?_
    refine W.eq (g2 := F0 m 2285 ls [.int (xs 5), .int (xs 4), .int (xs 3), .int (xs 2), .int (xs 1), .ref (r 0), .int (-2)]) rfl ?_
    have hPc := hP.sub (ws' := [((r 0), .inr (12, [.int 0, .ref (r 1), .ref (r 2), .ref (r 3), .ref (r 4), .ref (r 5), .int 0, .int 0, .int 0, .int 0, .int 0, .long 0, .int 0, .int 0, .int 0, .int (-1), .ref (r 6), .ref (r 7), .ref (r 8), .ref (r 9), .ref (r 10), .ref (r 11), .ref (r 12), .ref (r 13), .int 0, .int 0, .int 0, .ref (r 14), .ref (r 15), .ref (r 16), .ref (r 17), .ref (r 18), .ref (r 19), .ref (r 20), .ref (r 21), .ref (r 22), .ref (r 23), .ref (r 24), .ref (r 25), .ref (r 26), .ref (r 27), .ref (r 28), .ref (r 29), .int 0, .int 0, .int 0, .ref (r 30), .int 0, .int 0, .int 0, .int 0, .int 0, .int 0, .ref (r 31), .int 0, .int 0, .int 0, .ref (r 32), .ref (r 33)])), ((r 1), .inl ((j 0), 4, .inl (upd (upd (upd (upd (fun _ => 0) 0 (-1)) 1 (-1)) 2 (-1)) 3 (-1))))]) [78, 79] rfl
    have hKc := hK.sub (tys' := [((j 0), .int)]) [56] rfl
    have hDc := hD.sub (ws' := [((r 0), .inr (12, [.int 0, .ref (r 1), .ref (r 2), .ref (r 3), .ref (r 4), .ref (r 5), .int 0, .int 0, .int 0, .int 0, .int 0, .long 0, .int 0, .int 0, .int 0, .int (-1), .ref (r 6), .ref (r 7), .ref (r 8), .ref (r 9), .ref (r 10), .ref (r 11), .ref (r 12), .ref (r 13), .int 0, .int 0, .int 0, .ref (r 14), .ref (r 15), .ref (r 16), .ref (r 17), .ref (r 18), .ref (r 19), .ref (r 20), .ref (r 21), .ref (r 22), .ref (r 23), .ref (r 24), .ref (r 25), .ref (r 26), .ref (r 27), .ref (r 28), .ref (r 29), .int 0, .int 0, .int 0, .ref (r 30), .int 0, .int 0, .int 0, .int 0, .int 0, .int 0, .ref (r 31), .int 0, .int 0, .int 0, .ref (r 32), .ref (r 33)])), ((r 1), .inl ((j 0), 4, .inl (upd (upd (upd (upd (fun _ => 0) 0 (-1)) 1 (-1)) 2 (-1)) 3 (-1))))]) [78, 79] (by decide) rfl
    have hFc := va_free (wc := [((r 0), .inr (12, [.int 0, .ref (r 1), .ref (r 2), .ref (r 3), .ref (r 4), .ref (r 5), .int 0, .int 0, .int 0, .int 0, .int 0, .long 0, .int 0, .int 0, .int 0, .int (-1), .ref (r 6), .ref (r 7), .ref (r 8), .ref (r 9), .ref (r 10), .ref (r 11), .ref (r 12), .ref (r 13), .int 0, .int 0, .int 0, .ref (r 14), .ref (r 15), .ref (r 16), .ref (r 17), .ref (r 18), .ref (r 19), .ref (r 20), .ref (r 21), .ref (r 22), .ref (r 23), .ref (r 24), .ref (r 25), .ref (r 26), .ref (r 27), .ref (r 28), .ref (r 29), .int 0, .int 0, .int 0, .ref (r 30), .int 0, .int 0, .int 0, .int 0, .int 0, .int 0, .ref (r 31), .int 0, .int 0, .int 0, .ref (r 32), .ref (r 33)])), ((r 1), .inl ((j 0), 4, .inl (upd (upd (upd (upd (fun _ => 0) 0 (-1)) 1 (-1)) 2 (-1)) 3 (-1))))]) hD hS hA [78, 79] rfl
    refine va_calli (va_runV (As := [.int (xs 1), .int (xs 2), .int (xs 3), .int (xs 4), .int (xs 5)]) (rest := [.int (-2)]) ⟨hx, hb, hml, hown, hts⟩ (f_X12_paste l dC dI H.size ((r 0)) ((r 1)) ((r 2)) ((r 3)) ((r 4)) ((r 5)) ((r 6)) ((r 7)) ((r 8)) ((r 9)) ((r 10)) ((r 11)) ((r 12)) ((r 13)) ((r 14)) ((r 15)) ((r 16)) ((r 17)) ((r 18)) ((r 19)) ((r 20)) ((r 21)) ((r 22)) ((r 23)) ((r 24)) ((r 25)) ((r 26)) ((r 27)) ((r 28)) ((r 29)) ((r 30)) ((r 31)) ((r 32)) ((r 33)) ((j 0)) ((xs 1)) ((xs 2)) ((xs 3)) ((xs 4)) ((xs 5))) (cwV 5 hts (gk_V tw_1128 tw_1129 tw_1130 tw_505 wki_f_X12_paste wkg_f_X12_paste) rfl rfl rfl (by decide +kernel) ⟨Nat.le_of_ble_eq_true rfl, Nat.le_of_ble_eq_true rfl⟩) ⟨fun a U g mk q => by obtain ⟨q0, q1, qP, qK, qD⟩ := q; exact ⟨q0, q1, qP, va_K.moved (u := U) (U := U.calling g mk a) (Vm.Alike.refl U.vm) qK, qD⟩, va_recv hKc hPc (ci := 12) (q0 := 0) rfl rfl, fun U hU hW => ⟨rfl, by rw [hU], by rw [hU]; exact hPc, va_K.moved hW.alike hKc, hDc.weaken (fun _ _ _ _ => trivial)⟩⟩ rfl rfl hl.1 rfl (lv_room (Nat.le_of_ble_eq_true rfl)) dL_law_2285 ⟨Nat.le_of_ble_eq_true rfl, Nat.le_of_ble_eq_true rfl⟩) hS (fun q _ h => hFc q h) hFc (fun oz94 u t H1 locs ht hvm gz93 hB hz1 hk1 hS => ?_)
    generalize H1 = H at hS ⊢
    refine W.widen (k := 305) (n := 4995) (Nat.le_of_ble_eq_true rfl) (Nat.le_of_ble_eq_true rfl) ?_
    rcases gz93 with ⟨rfl, cz95⟩ | ⟨rfl, cz96, cz97⟩ | ⟨rfl, cz98, cz99, cz100⟩ | ⟨rfl, cz101, cz102, cz103, cz104⟩ | ⟨rfl, cz105, cz106, cz107, cz108⟩
    · skip
      have z0 : ¬ (xs 1).toInt < (0 : Int) := fun h9 => cz14 (zi_lt.mpr h9)
      have z1 : ¬ (4 : Int) ≤ (xs 1).toInt := fun h9 => cz15 (zi_le.mpr h9)
      have z4 : (xs 1).toInt < (0 : Int) := by have h9 := zi_ltL.mp cz95; simp only [Int32.toInt_toInt64] at h9; exact h9
      omega
    · skip
      have z0 : ¬ (xs 1).toInt < (0 : Int) := fun h9 => cz14 (zi_lt.mpr h9)
      have z1 : ¬ (4 : Int) ≤ (xs 1).toInt := fun h9 => cz15 (zi_le.mpr h9)
      have z4 : ¬ (xs 1).toInt < (0 : Int) := by intro h9; apply cz96; rw [zi_ltL]; simp only [Int32.toInt_toInt64]; exact h9
      have z5 : (3 : Int) < (xs 1).toInt := by have h9 := zi_ltL.mp cz97; simp only [Int32.toInt_toInt64] at h9; exact h9
      omega
    · skip
      have z2 : ¬ (xs 3).toInt < (0 : Int) := fun h9 => cz16 (zi_lt.mpr h9)
      have z3 : (4 : Int) ≤ (xs 3).toInt := zi_le.mp cz17
      have z6 : (xs 3).toInt < (0 : Int) := by have h9 := zi_ltL.mp cz100; simp only [Int32.toInt_toInt64] at h9; exact h9
      omega
    · skip
      refine lv_icmp_eq (tgt := 2293) hx hb dL_law_2288 (by decide) (fun cz109 => ?_) (fun cz109 => ?_)
      · skip
        exact law_end (dC := dC) (dI := dI) (Nat.le_of_eq hL6) C0 A hAe (q 0) (r 0) H locs hS ls hl
      · skip
        exact absurd cz109 (by decide)
    · skip
      have z2 : ¬ (xs 3).toInt < (0 : Int) := fun h9 => cz16 (zi_lt.mpr h9)
      have z3 : (4 : Int) ≤ (xs 3).toInt := zi_le.mp cz17
      have z6 : ¬ (xs 3).toInt < (0 : Int) := by intro h9; apply cz107; rw [zi_ltL]; simp only [Int32.toInt_toInt64]; exact h9
      have z7 : ¬ (3 : Int) < (xs 3).toInt := by intro h9; apply cz108; rw [zi_ltL]; simp only [Int32.toInt_toInt64]; exact h9
      omega
  · skip
    refine lv_aload_n hx hb dL_law_2259 rfl (lv_at hl 2 rfl) ?_
    refine lv_aload_n hx hb dL_law_2260 rfl (lv_at hl 0 rfl) ?_
    refine lv_iload_n hx hb dL_law_2261 rfl (lv_at hl 3 rfl) ?_
    refine lv_iconst (v := 1) hx hb dL_law_2262 (by decide) ?_
    refine lv_iadd hx hb dL_law_2263 ?_
    refine lv_topi (fun xz110 exz110 => ?_)
    obtain rfl : xz110 = 1 := exz110.trans (by decide)
    refine va_sld hx hb hX hbl hbA hS (by rw [hL6]; unfold vp_in; decide) dL_law_2264 ?_
    refine W.eq (g2 := F0 m 2265 ls [.int (xs 1), .ref (r 0), .int (-6)]) rfl ?_
    refine lv_aload_n hx hb dL_law_2265 rfl (lv_at hl 0 rfl) ?_
    refine lv_iload_n hx hb dL_law_2266 rfl (lv_at hl 3 rfl) ?_
    refine lv_iconst (v := 2) hx hb dL_law_2267 (by decide) ?_
    refine lv_iadd hx hb dL_law_2268 ?_
    refine lv_topi (fun xz111 exz111 => ?_)
    obtain rfl : xz111 = 2 := exz111.trans (by decide)
    refine va_sld hx hb hX hbl hbA hS (by rw [hL6]; unfold vp_in; decide) dL_law_2269 ?_
    refine W.eq (g2 := F0 m 2270 ls [.int (xs 2), .int (xs 1), .ref (r 0), .int (-6)]) rfl ?_
    refine lv_aload_n hx hb dL_law_2270 rfl (lv_at hl 0 rfl) ?_
    refine lv_iload_n hx hb dL_law_2271 rfl (lv_at hl 3 rfl) ?_
    refine lv_iconst (v := 3) hx hb dL_law_2272 (by decide) ?_
    refine lv_iadd hx hb dL_law_2273 ?_
    refine lv_topi (fun xz112 exz112 => ?_)
    obtain rfl : xz112 = 3 := exz112.trans (by decide)
    refine va_sld hx hb hX hbl hbA hS (by rw [hL6]; unfold vp_in; decide) dL_law_2274 ?_
    refine W.eq (g2 := F0 m 2275 ls [.int (xs 3), .int (xs 2), .int (xs 1), .ref (r 0), .int (-6)]) rfl ?_
    refine lv_aload_n hx hb dL_law_2275 rfl (lv_at hl 0 rfl) ?_
    refine lv_iload_n hx hb dL_law_2276 rfl (lv_at hl 3 rfl) ?_
    refine lv_iconst (v := 4) hx hb dL_law_2277 (by decide) ?_
    refine lv_iadd hx hb dL_law_2278 ?_
    refine lv_topi (fun xz113 exz113 => ?_)
    obtain rfl : xz113 = 4 := exz113.trans (by decide)
    refine va_sld hx hb hX hbl hbA hS (by rw [hL6]; unfold vp_in; decide) dL_law_2279 ?_
    refine W.eq (g2 := F0 m 2280 ls [.int (xs 4), .int (xs 3), .int (xs 2), .int (xs 1), .ref (r 0), .int (-6)]) rfl ?_
    refine lv_aload_n hx hb dL_law_2280 rfl (lv_at hl 0 rfl) ?_
    refine lv_iload_n hx hb dL_law_2281 rfl (lv_at hl 3 rfl) ?_
    refine lv_iconst (v := 5) hx hb dL_law_2282 (by decide) ?_
    refine lv_iadd hx hb dL_law_2283 ?_
    refine lv_topi (fun xz114 exz114 => ?_)
    obtain rfl : xz114 = 5 := exz114.trans (by decide)
    refine va_sld hx hb hX hbl hbA hS (by rw [hL6]; unfold vp_in; decide) dL_law_2284 ?_
    refine W.eq (g2 := F0 m 2285 ls [.int (xs 5), .int (xs 4), .int (xs 3), .int (xs 2), .int (xs 1), .ref (r 0), .int (-6)]) rfl ?_
    have hPc := hP.sub (ws' := [((r 0), .inr (12, [.int 0, .ref (r 1), .ref (r 2), .ref (r 3), .ref (r 4), .ref (r 5), .int 0, .int 0, .int 0, .int 0, .int 0, .long 0, .int 0, .int 0, .int 0, .int (-1), .ref (r 6), .ref (r 7), .ref (r 8), .ref (r 9), .ref (r 10), .ref (r 11), .ref (r 12), .ref (r 13), .int 0, .int 0, .int 0, .ref (r 14), .ref (r 15), .ref (r 16), .ref (r 17), .ref (r 18), .ref (r 19), .ref (r 20), .ref (r 21), .ref (r 22), .ref (r 23), .ref (r 24), .ref (r 25), .ref (r 26), .ref (r 27), .ref (r 28), .ref (r 29), .int 0, .int 0, .int 0, .ref (r 30), .int 0, .int 0, .int 0, .int 0, .int 0, .int 0, .ref (r 31), .int 0, .int 0, .int 0, .ref (r 32), .ref (r 33)])), ((r 1), .inl ((j 0), 4, .inl (upd (upd (upd (upd (fun _ => 0) 0 (-1)) 1 (-1)) 2 (-1)) 3 (-1))))]) [78, 79] rfl
    have hKc := hK.sub (tys' := [((j 0), .int)]) [56] rfl
    have hDc := hD.sub (ws' := [((r 0), .inr (12, [.int 0, .ref (r 1), .ref (r 2), .ref (r 3), .ref (r 4), .ref (r 5), .int 0, .int 0, .int 0, .int 0, .int 0, .long 0, .int 0, .int 0, .int 0, .int (-1), .ref (r 6), .ref (r 7), .ref (r 8), .ref (r 9), .ref (r 10), .ref (r 11), .ref (r 12), .ref (r 13), .int 0, .int 0, .int 0, .ref (r 14), .ref (r 15), .ref (r 16), .ref (r 17), .ref (r 18), .ref (r 19), .ref (r 20), .ref (r 21), .ref (r 22), .ref (r 23), .ref (r 24), .ref (r 25), .ref (r 26), .ref (r 27), .ref (r 28), .ref (r 29), .int 0, .int 0, .int 0, .ref (r 30), .int 0, .int 0, .int 0, .int 0, .int 0, .int 0, .ref (r 31), .int 0, .int 0, .int 0, .ref (r 32), .ref (r 33)])), ((r 1), .inl ((j 0), 4, .inl (upd (upd (upd (upd (fun _ => 0) 0 (-1)) 1 (-1)) 2 (-1)) 3 (-1))))]) [78, 79] (by decide) rfl
    have hFc := va_free (wc := [((r 0), .inr (12, [.int 0, .ref (r 1), .ref (r 2), .ref (r 3), .ref (r 4), .ref (r 5), .int 0, .int 0, .int 0, .int 0, .int 0, .long 0, .int 0, .int 0, .int 0, .int (-1), .ref (r 6), .ref (r 7), .ref (r 8), .ref (r 9), .ref (r 10), .ref (r 11), .ref (r 12), .ref (r 13), .int 0, .int 0, .int 0, .ref (r 14), .ref (r 15), .ref (r 16), .ref (r 17), .ref (r 18), .ref (r 19), .ref (r 20), .ref (r 21), .ref (r 22), .ref (r 23), .ref (r 24), .ref (r 25), .ref (r 26), .ref (r 27), .ref (r 28), .ref (r 29), .int 0, .int 0, .int 0, .ref (r 30), .int 0, .int 0, .int 0, .int 0, .int 0, .int 0, .ref (r 31), .int 0, .int 0, .int 0, .ref (r 32), .ref (r 33)])), ((r 1), .inl ((j 0), 4, .inl (upd (upd (upd (upd (fun _ => 0) 0 (-1)) 1 (-1)) 2 (-1)) 3 (-1))))]) hD hS hA [78, 79] rfl
    refine va_calli (va_runV (As := [.int (xs 1), .int (xs 2), .int (xs 3), .int (xs 4), .int (xs 5)]) (rest := [.int (-6)]) ⟨hx, hb, hml, hown, hts⟩ (f_X12_paste l dC dI H.size ((r 0)) ((r 1)) ((r 2)) ((r 3)) ((r 4)) ((r 5)) ((r 6)) ((r 7)) ((r 8)) ((r 9)) ((r 10)) ((r 11)) ((r 12)) ((r 13)) ((r 14)) ((r 15)) ((r 16)) ((r 17)) ((r 18)) ((r 19)) ((r 20)) ((r 21)) ((r 22)) ((r 23)) ((r 24)) ((r 25)) ((r 26)) ((r 27)) ((r 28)) ((r 29)) ((r 30)) ((r 31)) ((r 32)) ((r 33)) ((j 0)) ((xs 1)) ((xs 2)) ((xs 3)) ((xs 4)) ((xs 5))) (cwV 5 hts (gk_V tw_1128 tw_1129 tw_1130 tw_505 wki_f_X12_paste wkg_f_X12_paste) rfl rfl rfl (by decide +kernel) ⟨Nat.le_of_ble_eq_true rfl, Nat.le_of_ble_eq_true rfl⟩) ⟨fun a U g mk q => by obtain ⟨q0, q1, qP, qK, qD⟩ := q; exact ⟨q0, q1, qP, va_K.moved (u := U) (U := U.calling g mk a) (Vm.Alike.refl U.vm) qK, qD⟩, va_recv hKc hPc (ci := 12) (q0 := 0) rfl rfl, fun U hU hW => ⟨rfl, by rw [hU], by rw [hU]; exact hPc, va_K.moved hW.alike hKc, hDc.weaken (fun _ _ _ _ => trivial)⟩⟩ rfl rfl hl.1 rfl (lv_room (Nat.le_of_ble_eq_true rfl)) dL_law_2285 ⟨Nat.le_of_ble_eq_true rfl, Nat.le_of_ble_eq_true rfl⟩) hS (fun q _ h => hFc q h) hFc (fun oz116 u t H1 locs ht hvm gz115 hB hz1 hk1 hS => ?_)
    generalize H1 = H at hS ⊢
    refine W.widen (k := 305) (n := 4995) (Nat.le_of_ble_eq_true rfl) (Nat.le_of_ble_eq_true rfl) ?_
    rcases gz115 with ⟨rfl, cz117⟩ | ⟨rfl, cz118, cz119⟩ | ⟨rfl, cz120, cz121, cz122⟩ | ⟨rfl, cz123, cz124, cz125, cz126⟩ | ⟨rfl, cz127, cz128, cz129, cz130⟩
    · skip
      have z0 : ¬ (xs 1).toInt < (0 : Int) := fun h9 => cz18 (zi_lt.mpr h9)
      have z1 : ¬ (4 : Int) ≤ (xs 1).toInt := fun h9 => cz19 (zi_le.mpr h9)
      have z4 : (xs 1).toInt < (0 : Int) := by have h9 := zi_ltL.mp cz117; simp only [Int32.toInt_toInt64] at h9; exact h9
      omega
    · skip
      have z0 : ¬ (xs 1).toInt < (0 : Int) := fun h9 => cz18 (zi_lt.mpr h9)
      have z1 : ¬ (4 : Int) ≤ (xs 1).toInt := fun h9 => cz19 (zi_le.mpr h9)
      have z4 : ¬ (xs 1).toInt < (0 : Int) := by intro h9; apply cz118; rw [zi_ltL]; simp only [Int32.toInt_toInt64]; exact h9
      have z5 : (3 : Int) < (xs 1).toInt := by have h9 := zi_ltL.mp cz119; simp only [Int32.toInt_toInt64] at h9; exact h9
      omega
    · skip
      have z2 : ¬ (xs 3).toInt < (0 : Int) := fun h9 => cz20 (zi_lt.mpr h9)
      have z3 : ¬ (4 : Int) ≤ (xs 3).toInt := fun h9 => cz21 (zi_le.mpr h9)
      have z6 : (xs 3).toInt < (0 : Int) := by have h9 := zi_ltL.mp cz122; simp only [Int32.toInt_toInt64] at h9; exact h9
      omega
    · skip
      have z2 : ¬ (xs 3).toInt < (0 : Int) := fun h9 => cz20 (zi_lt.mpr h9)
      have z3 : ¬ (4 : Int) ≤ (xs 3).toInt := fun h9 => cz21 (zi_le.mpr h9)
      have z6 : ¬ (xs 3).toInt < (0 : Int) := by intro h9; apply cz125; rw [zi_ltL]; simp only [Int32.toInt_toInt64]; exact h9
      have z7 : (3 : Int) < (xs 3).toInt := by have h9 := zi_ltL.mp cz126; simp only [Int32.toInt_toInt64] at h9; exact h9
      omega
    · skip
      refine lv_icmp_eq (tgt := 2293) hx hb dL_law_2288 (by decide) (fun cz131 => ?_) (fun cz131 => ?_)
      · skip
        exact law_end (dC := dC) (dI := dI) (Nat.le_of_eq hL6) C0 A hAe (q 0) (r 0) H locs hS ls hl
      · skip
        exact absurd cz131 (by decide)
