set_option maxHeartbeats 4000000 in
set_option maxRecDepth 100000 in
/-- the loop's head, with both objects new -/
theorem law_head {p : Program} {l : Launch} {e : Env} {s : State} {m : MethodId} {below : List Frame} {meth : Method} {c : Code} {dC : Nat → ClassId} {dI : Nat → Nat → Nat} {b L : Nat} {xs : Nat → Int32} (hL : L ≤ 6) (C0 : lw_At p s m meth c b L xs) (A : Nat → Prop) (hAe : A = fun q => s.heap.size ≤ q) (q r : Nat → Nat) (k j : Nat → ClassId) (H : Heap) (locs : List Loc) (hK : va_K (dC, dI) vwCl (tX k ++ tM j) s) (hP : va_P (dC, dI) vwCl (wX q k ++ wM r j) H) (hD : va_D A (wX q k ++ wM r j)) (hS : va_S A s.heap H locs) (ls : Array Slot) (hl : lv_has ls 4 [(0, .ref b), (1, .ref (q 0)), (2, .ref (r 0)), (3, .int 0)]) : W p l e room_1 s m #[Value.ref b] below meth c H locs 305 4995 (lw_Z below #[Value.ref b] s) (F0 m 18 ls []) := by
  obtain ⟨hx, hb, hr, hml, hown, hts, hX, hbl, hlocks, hgv⟩ := id C0
  have hown : s.vm.findClass RL = some m.cls := hown
  have hbA : ¬ A b := by rw [hAe]; exact Nat.not_le.mpr hbl
  refine lv_iload_n hx hb dL_law_18 rfl (lv_at hl 3 rfl) ?_
  refine lv_aload_n hx hb dL_law_19 rfl (lv_at hl 0 rfl) ?_
  refine va_slen hx hb hX hbl hbA hS dL_law_20 ?_
  refine lv_bipush (v := 6) hx hb dL_law_21 (by decide) ?_
  refine lv_isub hx hb dL_law_23 ?_
  refine lv_icmp_gt (tgt := 2299) hx hb dL_law_24 (by decide) (fun c1 => ?_) (fun c1 => ?_)
  · refine lv_iconst (v := 1) hx hb dL_law_2299 (by decide) ?_
    refine va_forget (fun q hq => by have h9 := hS.2.2 q hq; rw [hAe] at h9; exact h9) ?_
    refine W.widen (k := 600000) (n := 7302250) (Nat.le_of_ble_eq_true rfl) (Nat.le_of_ble_eq_true rfl) ?_
    exact lw_ret hx hb hr hlocks dL_law_2300
  · have hL6 : L = 6 := by
      rcases (show L = 0 ∨ L = 1 ∨ L = 2 ∨ L = 3 ∨ L = 4 ∨ L = 5 ∨ L = 6 by omega) with rfl | rfl | rfl | rfl | rfl | rfl | rfl <;> first | rfl | exact absurd (by decide) c1
    refine lv_aload_n hx hb dL_law_27 rfl (lv_at hl 0 rfl) ?_
    refine lv_iload_n hx hb dL_law_28 rfl (lv_at hl 3 rfl) ?_
    refine va_sld hx hb hX hbl hbA hS (by rw [hL6]; unfold vp_in; decide) dL_law_29 ?_
    refine lv_bipush (v := 127) hx hb dL_law_30 (by decide) ?_
    refine lv_iand hx hb dL_law_32 ?_
    obtain ⟨n, hn, en⟩ := pk_andE (xs (0 : Int32).toNatClampNeg) (m := 127) 7 (by decide)
    rw [en]
    by_cases hn72 : n < 72
    · rcases Nat.lt_or_ge n 36 with h0_72 | h0_72
      · rcases Nat.lt_or_ge n 18 with h0_36 | h0_36
        · rcases Nat.lt_or_ge n 9 with h0_18 | h0_18
          · rcases Nat.lt_or_ge n 4 with h0_9 | h0_9
            · rcases Nat.lt_or_ge n 2 with h0_4 | h0_4
              · rcases Nat.lt_or_ge n 1 with h0_2 | h0_2
                · obtain rfl : n = 0 := by omega
                  refine lv_tableIn (off := 303) (tgt := 336) hx hb dL_law_33 (by decide) (by decide) rfl (by decide) ?_
                  exact law_case_0 hL6 C0 A hAe q r k j H locs hK hP hD hS ls hl
                · obtain rfl : n = 1 := by omega
                  refine lv_tableIn (off := 366) (tgt := 399) hx hb dL_law_33 (by decide) (by decide) rfl (by decide) ?_
                  exact law_case_1 hL6 C0 A hAe q r k j H locs hK hP hD hS ls hl
              · rcases Nat.lt_or_ge n 3 with h2_4 | h2_4
                · obtain rfl : n = 2 := by omega
                  refine lv_tableIn (off := 389) (tgt := 422) hx hb dL_law_33 (by decide) (by decide) rfl (by decide) ?_
                  exact law_case_2 hL6 C0 A hAe q r k j H locs hK hP hD hS ls hl
                · obtain rfl : n = 3 := by omega
                  refine lv_tableIn (off := 402) (tgt := 435) hx hb dL_law_33 (by decide) (by decide) rfl (by decide) ?_
                  exact law_case_3 hL6 C0 A hAe q r k j H locs hK hP hD hS ls hl
            · rcases Nat.lt_or_ge n 6 with h4_9 | h4_9
              · rcases Nat.lt_or_ge n 5 with h4_6 | h4_6
                · obtain rfl : n = 4 := by omega
                  refine lv_tableIn (off := 425) (tgt := 458) hx hb dL_law_33 (by decide) (by decide) rfl (by decide) ?_
                  exact law_case_4 hL6 C0 A hAe q r k j H locs hK hP hD hS ls hl
                · obtain rfl : n = 5 := by omega
                  refine lv_tableIn (off := 458) (tgt := 491) hx hb dL_law_33 (by decide) (by decide) rfl (by decide) ?_
                  exact law_case_5 hL6 C0 A hAe q r k j H locs hK hP hD hS ls hl
              · rcases Nat.lt_or_ge n 7 with h6_9 | h6_9
                · obtain rfl : n = 6 := by omega
                  refine lv_tableIn (off := 491) (tgt := 524) hx hb dL_law_33 (by decide) (by decide) rfl (by decide) ?_
                  exact law_case_6 hL6 C0 A hAe q r k j H locs hK hP hD hS ls hl
                · rcases Nat.lt_or_ge n 8 with h7_9 | h7_9
                  · obtain rfl : n = 7 := by omega
                    refine lv_tableIn (off := 524) (tgt := 557) hx hb dL_law_33 (by decide) (by decide) rfl (by decide) ?_
                    exact law_case_7 hL6 C0 A hAe q r k j H locs hK hP hD hS ls hl
                  · obtain rfl : n = 8 := by omega
                    refine lv_tableIn (off := 547) (tgt := 580) hx hb dL_law_33 (by decide) (by decide) rfl (by decide) ?_
                    exact law_case_8 hL6 C0 A hAe q r k j H locs hK hP hD hS ls hl
          · rcases Nat.lt_or_ge n 13 with h9_18 | h9_18
            · rcases Nat.lt_or_ge n 11 with h9_13 | h9_13
              · rcases Nat.lt_or_ge n 10 with h9_11 | h9_11
                · obtain rfl : n = 9 := by omega
                  refine lv_tableIn (off := 570) (tgt := 603) hx hb dL_law_33 (by decide) (by decide) rfl (by decide) ?_
                  exact law_case_9 hL6 C0 A hAe q r k j H locs hK hP hD hS ls hl
                · obtain rfl : n = 10 := by omega
                  refine lv_tableIn (off := 593) (tgt := 626) hx hb dL_law_33 (by decide) (by decide) rfl (by decide) ?_
                  exact law_case_10 hL6 C0 A hAe q r k j H locs hK hP hD hS ls hl
              · rcases Nat.lt_or_ge n 12 with h11_13 | h11_13
                · obtain rfl : n = 11 := by omega
                  refine lv_tableIn (off := 616) (tgt := 649) hx hb dL_law_33 (by decide) (by decide) rfl (by decide) ?_
                  exact law_case_11 hL6 C0 A hAe q r k j H locs hK hP hD hS ls hl
                · obtain rfl : n = 12 := by omega
                  refine lv_tableIn (off := 629) (tgt := 662) hx hb dL_law_33 (by decide) (by decide) rfl (by decide) ?_
                  exact law_case_12 hL6 C0 A hAe q r k j H locs hK hP hD hS ls hl
            · rcases Nat.lt_or_ge n 15 with h13_18 | h13_18
              · rcases Nat.lt_or_ge n 14 with h13_15 | h13_15
                · obtain rfl : n = 13 := by omega
                  refine lv_tableIn (off := 662) (tgt := 695) hx hb dL_law_33 (by decide) (by decide) rfl (by decide) ?_
                  exact law_case_13 hL6 C0 A hAe q r k j H locs hK hP hD hS ls hl
                · obtain rfl : n = 14 := by omega
                  refine lv_tableIn (off := 705) (tgt := 738) hx hb dL_law_33 (by decide) (by decide) rfl (by decide) ?_
                  exact law_case_14 hL6 C0 A hAe q r k j H locs hK hP hD hS ls hl
              · rcases Nat.lt_or_ge n 16 with h15_18 | h15_18
                · obtain rfl : n = 15 := by omega
                  refine lv_tableIn (off := 738) (tgt := 771) hx hb dL_law_33 (by decide) (by decide) rfl (by decide) ?_
                  exact law_case_15 hL6 C0 A hAe q r k j H locs hK hP hD hS ls hl
                · rcases Nat.lt_or_ge n 17 with h16_18 | h16_18
                  · obtain rfl : n = 16 := by omega
                    refine lv_tableIn (off := 761) (tgt := 794) hx hb dL_law_33 (by decide) (by decide) rfl (by decide) ?_
                    exact law_case_16 hL6 C0 A hAe q r k j H locs hK hP hD hS ls hl
                  · obtain rfl : n = 17 := by omega
                    refine lv_tableIn (off := 784) (tgt := 817) hx hb dL_law_33 (by decide) (by decide) rfl (by decide) ?_
                    exact law_case_17 hL6 C0 A hAe q r k j H locs hK hP hD hS ls hl
        · rcases Nat.lt_or_ge n 27 with h18_36 | h18_36
          · rcases Nat.lt_or_ge n 22 with h18_27 | h18_27
            · rcases Nat.lt_or_ge n 20 with h18_22 | h18_22
              · rcases Nat.lt_or_ge n 19 with h18_20 | h18_20
                · obtain rfl : n = 18 := by omega
                  refine lv_tableIn (off := 807) (tgt := 840) hx hb dL_law_33 (by decide) (by decide) rfl (by decide) ?_
                  exact law_case_18 hL6 C0 A hAe q r k j H locs hK hP hD hS ls hl
                · obtain rfl : n = 19 := by omega
                  refine lv_tableIn (off := 830) (tgt := 863) hx hb dL_law_33 (by decide) (by decide) rfl (by decide) ?_
                  exact law_case_19 hL6 C0 A hAe q r k j H locs hK hP hD hS ls hl
              · rcases Nat.lt_or_ge n 21 with h20_22 | h20_22
                · obtain rfl : n = 20 := by omega
                  refine lv_tableIn (off := 843) (tgt := 876) hx hb dL_law_33 (by decide) (by decide) rfl (by decide) ?_
                  exact law_case_20 hL6 C0 A hAe q r k j H locs hK hP hD hS ls hl
                · obtain rfl : n = 21 := by omega
                  refine lv_tableIn (off := 866) (tgt := 899) hx hb dL_law_33 (by decide) (by decide) rfl (by decide) ?_
                  exact law_case_21 hL6 C0 A hAe q r k j H locs hK hP hD hS ls hl
            · rcases Nat.lt_or_ge n 24 with h22_27 | h22_27
              · rcases Nat.lt_or_ge n 23 with h22_24 | h22_24
                · obtain rfl : n = 22 := by omega
                  refine lv_tableIn (off := 879) (tgt := 912) hx hb dL_law_33 (by decide) (by decide) rfl (by decide) ?_
                  exact law_case_22 hL6 C0 A hAe q r k j H locs hK hP hD hS ls hl
                · obtain rfl : n = 23 := by omega
                  refine lv_tableIn (off := 902) (tgt := 935) hx hb dL_law_33 (by decide) (by decide) rfl (by decide) ?_
                  exact law_case_23 hL6 C0 A hAe q r k j H locs hK hP hD hS ls hl
              · rcases Nat.lt_or_ge n 25 with h24_27 | h24_27
                · obtain rfl : n = 24 := by omega
                  refine lv_tableIn (off := 925) (tgt := 958) hx hb dL_law_33 (by decide) (by decide) rfl (by decide) ?_
                  exact law_case_24 hL6 C0 A hAe q r k j H locs hK hP hD hS ls hl
                · rcases Nat.lt_or_ge n 26 with h25_27 | h25_27
                  · obtain rfl : n = 25 := by omega
                    refine lv_tableIn (off := 938) (tgt := 971) hx hb dL_law_33 (by decide) (by decide) rfl (by decide) ?_
                    exact law_case_25 hL6 C0 A hAe q r k j H locs hK hP hD hS ls hl
                  · obtain rfl : n = 26 := by omega
                    refine lv_tableIn (off := 961) (tgt := 994) hx hb dL_law_33 (by decide) (by decide) rfl (by decide) ?_
                    exact law_case_26 hL6 C0 A hAe q r k j H locs hK hP hD hS ls hl
          · rcases Nat.lt_or_ge n 31 with h27_36 | h27_36
            · rcases Nat.lt_or_ge n 29 with h27_31 | h27_31
              · rcases Nat.lt_or_ge n 28 with h27_29 | h27_29
                · obtain rfl : n = 27 := by omega
                  refine lv_tableIn (off := 984) (tgt := 1017) hx hb dL_law_33 (by decide) (by decide) rfl (by decide) ?_
                  exact law_case_27 hL6 C0 A hAe q r k j H locs hK hP hD hS ls hl
                · obtain rfl : n = 28 := by omega
                  refine lv_tableIn (off := 1017) (tgt := 1050) hx hb dL_law_33 (by decide) (by decide) rfl (by decide) ?_
                  exact law_case_28 hL6 C0 A hAe q r k j H locs hK hP hD hS ls hl
              · rcases Nat.lt_or_ge n 30 with h29_31 | h29_31
                · obtain rfl : n = 29 := by omega
                  refine lv_tableIn (off := 1040) (tgt := 1073) hx hb dL_law_33 (by decide) (by decide) rfl (by decide) ?_
                  exact law_case_29 hL6 C0 A hAe q r k j H locs hK hP hD hS ls hl
                · obtain rfl : n = 30 := by omega
                  refine lv_tableIn (off := 1073) (tgt := 1106) hx hb dL_law_33 (by decide) (by decide) rfl (by decide) ?_
                  exact law_case_30 hL6 C0 A hAe q r k j H locs hK hP hD hS ls hl
            · rcases Nat.lt_or_ge n 33 with h31_36 | h31_36
              · rcases Nat.lt_or_ge n 32 with h31_33 | h31_33
                · obtain rfl : n = 31 := by omega
                  refine lv_tableIn (off := 1106) (tgt := 1139) hx hb dL_law_33 (by decide) (by decide) rfl (by decide) ?_
                  exact law_case_31 hL6 C0 A hAe q r k j H locs hK hP hD hS ls hl
                · obtain rfl : n = 32 := by omega
                  refine lv_tableIn (off := 1119) (tgt := 1152) hx hb dL_law_33 (by decide) (by decide) rfl (by decide) ?_
                  exact law_case_32 hL6 C0 A hAe q r k j H locs hK hP hD hS ls hl
              · rcases Nat.lt_or_ge n 34 with h33_36 | h33_36
                · obtain rfl : n = 33 := by omega
                  refine lv_tableIn (off := 1142) (tgt := 1175) hx hb dL_law_33 (by decide) (by decide) rfl (by decide) ?_
                  exact law_case_33 hL6 C0 A hAe q r k j H locs hK hP hD hS ls hl
                · rcases Nat.lt_or_ge n 35 with h34_36 | h34_36
                  · obtain rfl : n = 34 := by omega
                    refine lv_tableIn (off := 1155) (tgt := 1188) hx hb dL_law_33 (by decide) (by decide) rfl (by decide) ?_
                    exact law_case_34 hL6 C0 A hAe q r k j H locs hK hP hD hS ls hl
                  · obtain rfl : n = 35 := by omega
                    refine lv_tableIn (off := 1168) (tgt := 1201) hx hb dL_law_33 (by decide) (by decide) rfl (by decide) ?_
                    exact law_case_35 hL6 C0 A hAe q r k j H locs hK hP hD hS ls hl
      · rcases Nat.lt_or_ge n 54 with h36_72 | h36_72
        · rcases Nat.lt_or_ge n 45 with h36_54 | h36_54
          · rcases Nat.lt_or_ge n 40 with h36_45 | h36_45
            · rcases Nat.lt_or_ge n 38 with h36_40 | h36_40
              · rcases Nat.lt_or_ge n 37 with h36_38 | h36_38
                · obtain rfl : n = 36 := by omega
                  refine lv_tableIn (off := 1181) (tgt := 1214) hx hb dL_law_33 (by decide) (by decide) rfl (by decide) ?_
                  exact law_case_36 hL6 C0 A hAe q r k j H locs hK hP hD hS ls hl
                · obtain rfl : n = 37 := by omega
                  refine lv_tableIn (off := 1204) (tgt := 1237) hx hb dL_law_33 (by decide) (by decide) rfl (by decide) ?_
                  exact law_case_37 hL6 C0 A hAe q r k j H locs hK hP hD hS ls hl
              · rcases Nat.lt_or_ge n 39 with h38_40 | h38_40
                · obtain rfl : n = 38 := by omega
                  refine lv_tableIn (off := 1217) (tgt := 1250) hx hb dL_law_33 (by decide) (by decide) rfl (by decide) ?_
                  exact law_case_38 hL6 C0 A hAe q r k j H locs hK hP hD hS ls hl
                · obtain rfl : n = 39 := by omega
                  refine lv_tableIn (off := 1240) (tgt := 1273) hx hb dL_law_33 (by decide) (by decide) rfl (by decide) ?_
                  exact law_case_39 hL6 C0 A hAe q r k j H locs hK hP hD hS ls hl
            · rcases Nat.lt_or_ge n 42 with h40_45 | h40_45
              · rcases Nat.lt_or_ge n 41 with h40_42 | h40_42
                · obtain rfl : n = 40 := by omega
                  refine lv_tableIn (off := 1253) (tgt := 1286) hx hb dL_law_33 (by decide) (by decide) rfl (by decide) ?_
                  exact law_case_40 hL6 C0 A hAe q r k j H locs hK hP hD hS ls hl
                · obtain rfl : n = 41 := by omega
                  refine lv_tableIn (off := 1266) (tgt := 1299) hx hb dL_law_33 (by decide) (by decide) rfl (by decide) ?_
                  exact law_case_41 hL6 C0 A hAe q r k j H locs hK hP hD hS ls hl
              · rcases Nat.lt_or_ge n 43 with h42_45 | h42_45
                · obtain rfl : n = 42 := by omega
                  refine lv_tableIn (off := 1299) (tgt := 1332) hx hb dL_law_33 (by decide) (by decide) rfl (by decide) ?_
                  exact law_case_42 hL6 C0 A hAe q r k j H locs hK hP hD hS ls hl
                · rcases Nat.lt_or_ge n 44 with h43_45 | h43_45
                  · obtain rfl : n = 43 := by omega
                    refine lv_tableIn (off := 1332) (tgt := 1365) hx hb dL_law_33 (by decide) (by decide) rfl (by decide) ?_
                    exact law_case_43 hL6 C0 A hAe q r k j H locs hK hP hD hS ls hl
                  · obtain rfl : n = 44 := by omega
                    refine lv_tableIn (off := 1365) (tgt := 1398) hx hb dL_law_33 (by decide) (by decide) rfl (by decide) ?_
                    exact law_case_44 hL6 C0 A hAe q r k j H locs hK hP hD hS ls hl
          · rcases Nat.lt_or_ge n 49 with h45_54 | h45_54
            · rcases Nat.lt_or_ge n 47 with h45_49 | h45_49
              · rcases Nat.lt_or_ge n 46 with h45_47 | h45_47
                · obtain rfl : n = 45 := by omega
                  refine lv_tableIn (off := 1398) (tgt := 1431) hx hb dL_law_33 (by decide) (by decide) rfl (by decide) ?_
                  exact law_case_45 hL6 C0 A hAe q r k j H locs hK hP hD hS ls hl
                · obtain rfl : n = 46 := by omega
                  refine lv_tableIn (off := 1431) (tgt := 1464) hx hb dL_law_33 (by decide) (by decide) rfl (by decide) ?_
                  exact law_case_46 hL6 C0 A hAe q r k j H locs hK hP hD hS ls hl
              · rcases Nat.lt_or_ge n 48 with h47_49 | h47_49
                · obtain rfl : n = 47 := by omega
                  refine lv_tableIn (off := 1464) (tgt := 1497) hx hb dL_law_33 (by decide) (by decide) rfl (by decide) ?_
                  exact law_case_47 hL6 C0 A hAe q r k j H locs hK hP hD hS ls hl
                · obtain rfl : n = 48 := by omega
                  refine lv_tableIn (off := 1497) (tgt := 1530) hx hb dL_law_33 (by decide) (by decide) rfl (by decide) ?_
                  exact law_case_48 hL6 C0 A hAe q r k j H locs hK hP hD hS ls hl
            · rcases Nat.lt_or_ge n 51 with h49_54 | h49_54
              · rcases Nat.lt_or_ge n 50 with h49_51 | h49_51
                · obtain rfl : n = 49 := by omega
                  refine lv_tableIn (off := 1530) (tgt := 1563) hx hb dL_law_33 (by decide) (by decide) rfl (by decide) ?_
                  exact law_case_49 hL6 C0 A hAe q r k j H locs hK hP hD hS ls hl
                · obtain rfl : n = 50 := by omega
                  refine lv_tableIn (off := 1563) (tgt := 1596) hx hb dL_law_33 (by decide) (by decide) rfl (by decide) ?_
                  exact law_case_50 hL6 C0 A hAe q r k j H locs hK hP hD hS ls hl
              · rcases Nat.lt_or_ge n 52 with h51_54 | h51_54
                · obtain rfl : n = 51 := by omega
                  refine lv_tableIn (off := 1586) (tgt := 1619) hx hb dL_law_33 (by decide) (by decide) rfl (by decide) ?_
                  exact law_case_51 hL6 C0 A hAe q r k j H locs hK hP hD hS ls hl
                · rcases Nat.lt_or_ge n 53 with h52_54 | h52_54
                  · obtain rfl : n = 52 := by omega
                    refine lv_tableIn (off := 1609) (tgt := 1642) hx hb dL_law_33 (by decide) (by decide) rfl (by decide) ?_
                    exact law_case_52 hL6 C0 A hAe q r k j H locs hK hP hD hS ls hl
                  · obtain rfl : n = 53 := by omega
                    refine lv_tableIn (off := 1632) (tgt := 1665) hx hb dL_law_33 (by decide) (by decide) rfl (by decide) ?_
                    exact law_case_53 hL6 C0 A hAe q r k j H locs hK hP hD hS ls hl
        · rcases Nat.lt_or_ge n 63 with h54_72 | h54_72
          · rcases Nat.lt_or_ge n 58 with h54_63 | h54_63
            · rcases Nat.lt_or_ge n 56 with h54_58 | h54_58
              · rcases Nat.lt_or_ge n 55 with h54_56 | h54_56
                · obtain rfl : n = 54 := by omega
                  refine lv_tableIn (off := 1645) (tgt := 1678) hx hb dL_law_33 (by decide) (by decide) rfl (by decide) ?_
                  exact law_case_54 hL6 C0 A hAe q r k j H locs hK hP hD hS ls hl
                · obtain rfl : n = 55 := by omega
                  refine lv_tableIn (off := 1678) (tgt := 1711) hx hb dL_law_33 (by decide) (by decide) rfl (by decide) ?_
                  exact law_case_55 hL6 C0 A hAe q r k j H locs hK hP hD hS ls hl
              · rcases Nat.lt_or_ge n 57 with h56_58 | h56_58
                · obtain rfl : n = 56 := by omega
                  refine lv_tableIn (off := 1711) (tgt := 1744) hx hb dL_law_33 (by decide) (by decide) rfl (by decide) ?_
                  exact law_case_56 hL6 C0 A hAe q r k j H locs hK hP hD hS ls hl
                · obtain rfl : n = 57 := by omega
                  refine lv_tableIn (off := 1744) (tgt := 1777) hx hb dL_law_33 (by decide) (by decide) rfl (by decide) ?_
                  exact law_case_57 hL6 C0 A hAe q r k j H locs hK hP hD hS ls hl
            · rcases Nat.lt_or_ge n 60 with h58_63 | h58_63
              · rcases Nat.lt_or_ge n 59 with h58_60 | h58_60
                · obtain rfl : n = 58 := by omega
                  refine lv_tableIn (off := 1777) (tgt := 1810) hx hb dL_law_33 (by decide) (by decide) rfl (by decide) ?_
                  exact law_case_58 hL6 C0 A hAe q r k j H locs hK hP hD hS ls hl
                · obtain rfl : n = 59 := by omega
                  refine lv_tableIn (off := 1811) (tgt := 1844) hx hb dL_law_33 (by decide) (by decide) rfl (by decide) ?_
                  exact law_case_59 hL6 C0 A hAe q r k j H locs hK hP hD hS ls hl
              · rcases Nat.lt_or_ge n 61 with h60_63 | h60_63
                · obtain rfl : n = 60 := by omega
                  refine lv_tableIn (off := 1844) (tgt := 1877) hx hb dL_law_33 (by decide) (by decide) rfl (by decide) ?_
                  exact law_case_60 hL6 C0 A hAe q r k j H locs hK hP hD hS ls hl
                · rcases Nat.lt_or_ge n 62 with h61_63 | h61_63
                  · obtain rfl : n = 61 := by omega
                    refine lv_tableIn (off := 1877) (tgt := 1910) hx hb dL_law_33 (by decide) (by decide) rfl (by decide) ?_
                    exact law_case_61 hL6 C0 A hAe q r k j H locs hK hP hD hS ls hl
                  · obtain rfl : n = 62 := by omega
                    refine lv_tableIn (off := 1890) (tgt := 1923) hx hb dL_law_33 (by decide) (by decide) rfl (by decide) ?_
                    exact law_case_62 hL6 C0 A hAe q r k j H locs hK hP hD hS ls hl
          · rcases Nat.lt_or_ge n 67 with h63_72 | h63_72
            · rcases Nat.lt_or_ge n 65 with h63_67 | h63_67
              · rcases Nat.lt_or_ge n 64 with h63_65 | h63_65
                · obtain rfl : n = 63 := by omega
                  refine lv_tableIn (off := 1903) (tgt := 1936) hx hb dL_law_33 (by decide) (by decide) rfl (by decide) ?_
                  exact law_case_63 hL6 C0 A hAe q r k j H locs hK hP hD hS ls hl
                · obtain rfl : n = 64 := by omega
                  refine lv_tableIn (off := 1936) (tgt := 1969) hx hb dL_law_33 (by decide) (by decide) rfl (by decide) ?_
                  exact law_case_64 hL6 C0 A hAe q r k j H locs hK hP hD hS ls hl
              · rcases Nat.lt_or_ge n 66 with h65_67 | h65_67
                · obtain rfl : n = 65 := by omega
                  refine lv_tableIn (off := 1979) (tgt := 2012) hx hb dL_law_33 (by decide) (by decide) rfl (by decide) ?_
                  exact law_case_65 hL6 C0 A hAe q r k j H locs hK hP hD hS ls hl
                · obtain rfl : n = 66 := by omega
                  refine lv_tableIn (off := 2012) (tgt := 2045) hx hb dL_law_33 (by decide) (by decide) rfl (by decide) ?_
                  exact law_case_66 hL6 C0 A hAe q r k j H locs hK hP hD hS ls hl
            · rcases Nat.lt_or_ge n 69 with h67_72 | h67_72
              · rcases Nat.lt_or_ge n 68 with h67_69 | h67_69
                · obtain rfl : n = 67 := by omega
                  refine lv_tableIn (off := 2035) (tgt := 2068) hx hb dL_law_33 (by decide) (by decide) rfl (by decide) ?_
                  exact law_case_67 hL6 C0 A hAe q r k j H locs hK hP hD hS ls hl
                · obtain rfl : n = 68 := by omega
                  refine lv_tableIn (off := 2058) (tgt := 2091) hx hb dL_law_33 (by decide) (by decide) rfl (by decide) ?_
                  exact law_case_68 hL6 C0 A hAe q r k j H locs hK hP hD hS ls hl
              · rcases Nat.lt_or_ge n 70 with h69_72 | h69_72
                · obtain rfl : n = 69 := by omega
                  refine lv_tableIn (off := 2081) (tgt := 2114) hx hb dL_law_33 (by decide) (by decide) rfl (by decide) ?_
                  exact law_case_69 hL6 C0 A hAe q r k j H locs hK hP hD hS ls hl
                · rcases Nat.lt_or_ge n 71 with h70_72 | h70_72
                  · obtain rfl : n = 70 := by omega
                    refine lv_tableIn (off := 2124) (tgt := 2157) hx hb dL_law_33 (by decide) (by decide) rfl (by decide) ?_
                    exact law_case_70 hL6 C0 A hAe q r k j H locs hK hP hD hS ls hl
                  · obtain rfl : n = 71 := by omega
                    refine lv_tableIn (off := 2197) (tgt := 2230) hx hb dL_law_33 (by decide) (by decide) rfl (by decide) ?_
                    exact law_case_71 hL6 C0 A hAe q r k j H locs hK hP hD hS ls hl
    · have hn128 : n < 128 := hn
      have ht : (nI n).toInt = (n : Int) := nI_toInt (by omega)
      refine lv_tableOut (tgt := 2293) hx hb dL_law_33 (by rw [ht]; omega) (by decide) ?_
      exact law_end (dC := dC) (dI := dI) hL C0 A hAe (q 0) (r 0) H locs hS ls hl
