set_option maxHeartbeats 4000000 in
set_option maxRecDepth 100000 in
theorem law_loop {p : Program} {l : Launch} {e : Env} {s : State} {m : MethodId} {below : List Frame} {meth : Method} {c : Code} {dC : Nat → ClassId} {dI : Nat → Nat → Nat} {b L : Nat} {xs : Nat → Int32} (C0 : lw_At p s m meth c b L xs) (A : Nat → Prop) (hAe : A = fun q => s.heap.size ≤ q) (k : Nat → ClassId) (Q : Nat → Nat → Nat) (S : Nat → Nat → Nat → Nat) (adK adV ln : Nat → Nat) (by9 : Nat → Nat → Int32) (hK : va_K (dC, dI) vwCl (tK k) s) (hZ : Zt adK adV ln by9 A s s.heap) (hL : L ≤ 384) : ∀ (n : Nat) (i : Int32) (H : Heap) (locs : List Loc) (ls : Array Slot), 390 - i.toInt < (n : Int) → 0 ≤ i.toInt → i.toInt ≤ 390 → LI dC dI k A Q S H → va_S A s.heap H locs → lv_has ls 4 [(0, .ref b), (1, .ref ((Q 18) 0)), (2, .ref ((Q 26) 0)), (3, .int i)] → W p l e room_1 s m #[Value.ref b] below meth c H locs 305 4995 (lw_Z below #[Value.ref b] s) (F0 m 18 ls []) := by
  obtain ⟨hx, hb, hr, hml, hown, hts, hX, hbl, hlocks, hgv⟩ := id C0
  have hbA : ¬ A b := by rw [hAe]; exact Nat.not_le.mpr hbl
  intro n
  induction n with
  | zero => intro i H locs ls hn h0 h1; exfalso; omega
  | succ n ih =>
    intro i H locs ls hn h0 h1 hI hS hl
    refine lv_iload_n hx hb dL_law_18 rfl (lv_at hl 3 rfl) ?_
    refine lv_aload_n hx hb dL_law_19 rfl (lv_at hl 0 rfl) ?_
    refine va_slen hx hb hX hbl hbA hS dL_law_20 ?_
    refine lv_bipush (v := 6) hx hb dL_law_21 (by decide) ?_
    refine lv_isub hx hb dL_law_23 ?_
    refine lv_topi (fun y ey => ?_)
    have hLi : (Int32.ofNat L).toInt = (L : Int) := nI_toInt (by omega)
    have fy : y.toInt = (L : Int) - 6 := by
      rw [ey]
      have h9 := fb_subI (x := Int32.ofNat L) (y := (6 : Int32)) (by rw [hLi]; show -2147483648 ≤ (L : Int) - 6; omega) (by rw [hLi]; show (L : Int) - 6 < 2147483648; omega)
      rw [hLi] at h9
      exact h9
    refine lv_icmp_gt (tgt := 2298) hx hb dL_law_24 (by decide) (fun c1 => ?_) (fun c1 => ?_)
    · refine lv_iconst (v := 1) hx hb dL_law_2298 (by decide) ?_
      refine va_forget (fun q hq => by have h9 := hS.2.2 q hq; rw [hAe] at h9; exact h9) ?_
      refine W.widen (k := 600000) (n := 7302250) (Nat.le_of_ble_eq_true rfl) (Nat.le_of_ble_eq_true rfl) ?_
      exact lw_ret hx hb hr hlocks dL_law_2299
    · have hi1 : i.toInt + 6 ≤ (L : Int) := by
        have h9 : ¬ y.toInt < i.toInt := fun h9 => c1 (zi_lt.mpr h9)
        omega
      have hk : ∀ (H : Heap) (locs : List Loc) (ls : Array Slot), LI dC dI k A Q S H → va_S A s.heap H locs → lv_has ls 4 [(0, .ref b), (1, .ref ((Q 18) 0)), (2, .ref ((Q 26) 0)), (3, .int i)] → W p l e room_1 s m #[Value.ref b] below meth c H locs 305 4995 (lw_Z below #[Value.ref b] s) (F0 m 2292 ls []) := by
        intro H locs ls hI hS hl
        obtain ⟨z, ez⟩ : ∃ z : Int32, z = i + Int32.ofInt (6) := ⟨_, rfl⟩
        have fz : z.toInt = i.toInt + (6) := by rw [ez]; exact fb_addI (y := Int32.ofInt (6)) (by show -2147483648 ≤ i.toInt + (6); omega) (by show i.toInt + (6) < 2147483648; omega)
        refine lv_iinc (v := z) (lv' := [(3, .int z), (0, .ref b), (1, .ref ((Q 18) 0)), (2, .ref ((Q 26) 0))]) hx hb dL_law_2292 hl (k := 3) rfl ez.symm (by decide) rfl (fun ls hl => ?_)
        refine lv_goto (tgt := 18) hx hb dL_law_2295 (by decide) ?_
        exact ih z H locs ls (by omega) (by omega) (by omega) hI hS (lv_sub hl [1, 2, 3, 0] rfl)
      refine lv_aload_n hx hb dL_law_27 rfl (lv_at hl 0 rfl) ?_
      refine lv_iload_n hx hb dL_law_28 rfl (lv_at hl 3 rfl) ?_
      refine va_sld hx hb hX hbl hbA hS (vp_in_iff.mpr ⟨by omega, by omega⟩) dL_law_29 ?_
      refine lv_bipush (v := 127) hx hb dL_law_30 (by decide) ?_
      refine lv_iand hx hb dL_law_32 ?_
      obtain ⟨v, hv, ev⟩ := pk_andE (xs i.toNatClampNeg) (m := 127) 7 (by decide)
      rw [ev]
      by_cases hv72 : v < 72
      · rcases Nat.lt_or_ge v 36 with h0_72 | h0_72
        · rcases Nat.lt_or_ge v 18 with h0_36 | h0_36
          · rcases Nat.lt_or_ge v 9 with h0_18 | h0_18
            · rcases Nat.lt_or_ge v 4 with h0_9 | h0_9
              · rcases Nat.lt_or_ge v 2 with h0_4 | h0_4
                · rcases Nat.lt_or_ge v 1 with h0_2 | h0_2
                  · obtain rfl : v = 0 := by omega
                    refine lv_tableIn (off := 303) (tgt := 336) hx hb dL_law_33 (by decide) (by decide) rfl (by decide) ?_
                    exact law_case_0 C0 A hAe k Q S adK adV ln by9 hK hZ i h0 hi1 hL H locs ls hI hS hl hk
                  · obtain rfl : v = 1 := by omega
                    refine lv_tableIn (off := 366) (tgt := 399) hx hb dL_law_33 (by decide) (by decide) rfl (by decide) ?_
                    exact law_case_1 C0 A hAe k Q S adK adV ln by9 hK hZ i h0 hi1 hL H locs ls hI hS hl hk
                · rcases Nat.lt_or_ge v 3 with h2_4 | h2_4
                  · obtain rfl : v = 2 := by omega
                    refine lv_tableIn (off := 389) (tgt := 422) hx hb dL_law_33 (by decide) (by decide) rfl (by decide) ?_
                    exact law_case_2 C0 A hAe k Q S adK adV ln by9 hK hZ i h0 hi1 hL H locs ls hI hS hl hk
                  · obtain rfl : v = 3 := by omega
                    refine lv_tableIn (off := 402) (tgt := 435) hx hb dL_law_33 (by decide) (by decide) rfl (by decide) ?_
                    exact law_case_3 C0 A hAe k Q S adK adV ln by9 hK hZ i h0 hi1 hL H locs ls hI hS hl hk
              · rcases Nat.lt_or_ge v 6 with h4_9 | h4_9
                · rcases Nat.lt_or_ge v 5 with h4_6 | h4_6
                  · obtain rfl : v = 4 := by omega
                    refine lv_tableIn (off := 425) (tgt := 458) hx hb dL_law_33 (by decide) (by decide) rfl (by decide) ?_
                    exact law_case_4 C0 A hAe k Q S adK adV ln by9 hK hZ i h0 hi1 hL H locs ls hI hS hl hk
                  · obtain rfl : v = 5 := by omega
                    refine lv_tableIn (off := 458) (tgt := 491) hx hb dL_law_33 (by decide) (by decide) rfl (by decide) ?_
                    exact law_case_5 C0 A hAe k Q S adK adV ln by9 hK hZ i h0 hi1 hL H locs ls hI hS hl hk
                · rcases Nat.lt_or_ge v 7 with h6_9 | h6_9
                  · obtain rfl : v = 6 := by omega
                    refine lv_tableIn (off := 491) (tgt := 524) hx hb dL_law_33 (by decide) (by decide) rfl (by decide) ?_
                    exact law_case_6 C0 A hAe k Q S adK adV ln by9 hK hZ i h0 hi1 hL H locs ls hI hS hl hk
                  · rcases Nat.lt_or_ge v 8 with h7_9 | h7_9
                    · obtain rfl : v = 7 := by omega
                      refine lv_tableIn (off := 524) (tgt := 557) hx hb dL_law_33 (by decide) (by decide) rfl (by decide) ?_
                      exact law_case_7 C0 A hAe k Q S adK adV ln by9 hK hZ i h0 hi1 hL H locs ls hI hS hl hk
                    · obtain rfl : v = 8 := by omega
                      refine lv_tableIn (off := 547) (tgt := 580) hx hb dL_law_33 (by decide) (by decide) rfl (by decide) ?_
                      exact law_case_8 C0 A hAe k Q S adK adV ln by9 hK hZ i h0 hi1 hL H locs ls hI hS hl hk
            · rcases Nat.lt_or_ge v 13 with h9_18 | h9_18
              · rcases Nat.lt_or_ge v 11 with h9_13 | h9_13
                · rcases Nat.lt_or_ge v 10 with h9_11 | h9_11
                  · obtain rfl : v = 9 := by omega
                    refine lv_tableIn (off := 570) (tgt := 603) hx hb dL_law_33 (by decide) (by decide) rfl (by decide) ?_
                    exact law_case_9 C0 A hAe k Q S adK adV ln by9 hK hZ i h0 hi1 hL H locs ls hI hS hl hk
                  · obtain rfl : v = 10 := by omega
                    refine lv_tableIn (off := 593) (tgt := 626) hx hb dL_law_33 (by decide) (by decide) rfl (by decide) ?_
                    exact law_case_10 C0 A hAe k Q S adK adV ln by9 hK hZ i h0 hi1 hL H locs ls hI hS hl hk
                · rcases Nat.lt_or_ge v 12 with h11_13 | h11_13
                  · obtain rfl : v = 11 := by omega
                    refine lv_tableIn (off := 616) (tgt := 649) hx hb dL_law_33 (by decide) (by decide) rfl (by decide) ?_
                    exact law_case_11 C0 A hAe k Q S adK adV ln by9 hK hZ i h0 hi1 hL H locs ls hI hS hl hk
                  · obtain rfl : v = 12 := by omega
                    refine lv_tableIn (off := 629) (tgt := 662) hx hb dL_law_33 (by decide) (by decide) rfl (by decide) ?_
                    exact law_case_12 C0 A hAe k Q S adK adV ln by9 hK hZ i h0 hi1 hL H locs ls hI hS hl hk
              · rcases Nat.lt_or_ge v 15 with h13_18 | h13_18
                · rcases Nat.lt_or_ge v 14 with h13_15 | h13_15
                  · obtain rfl : v = 13 := by omega
                    refine lv_tableIn (off := 662) (tgt := 695) hx hb dL_law_33 (by decide) (by decide) rfl (by decide) ?_
                    exact law_case_13 C0 A hAe k Q S adK adV ln by9 hK hZ i h0 hi1 hL H locs ls hI hS hl hk
                  · obtain rfl : v = 14 := by omega
                    refine lv_tableIn (off := 705) (tgt := 738) hx hb dL_law_33 (by decide) (by decide) rfl (by decide) ?_
                    exact law_case_14 C0 A hAe k Q S adK adV ln by9 hK hZ i h0 hi1 hL H locs ls hI hS hl hk
                · rcases Nat.lt_or_ge v 16 with h15_18 | h15_18
                  · obtain rfl : v = 15 := by omega
                    refine lv_tableIn (off := 738) (tgt := 771) hx hb dL_law_33 (by decide) (by decide) rfl (by decide) ?_
                    exact law_case_15 C0 A hAe k Q S adK adV ln by9 hK hZ i h0 hi1 hL H locs ls hI hS hl hk
                  · rcases Nat.lt_or_ge v 17 with h16_18 | h16_18
                    · obtain rfl : v = 16 := by omega
                      refine lv_tableIn (off := 761) (tgt := 794) hx hb dL_law_33 (by decide) (by decide) rfl (by decide) ?_
                      exact law_case_16 C0 A hAe k Q S adK adV ln by9 hK hZ i h0 hi1 hL H locs ls hI hS hl hk
                    · obtain rfl : v = 17 := by omega
                      refine lv_tableIn (off := 784) (tgt := 817) hx hb dL_law_33 (by decide) (by decide) rfl (by decide) ?_
                      exact law_case_17 C0 A hAe k Q S adK adV ln by9 hK hZ i h0 hi1 hL H locs ls hI hS hl hk
          · rcases Nat.lt_or_ge v 27 with h18_36 | h18_36
            · rcases Nat.lt_or_ge v 22 with h18_27 | h18_27
              · rcases Nat.lt_or_ge v 20 with h18_22 | h18_22
                · rcases Nat.lt_or_ge v 19 with h18_20 | h18_20
                  · obtain rfl : v = 18 := by omega
                    refine lv_tableIn (off := 807) (tgt := 840) hx hb dL_law_33 (by decide) (by decide) rfl (by decide) ?_
                    exact law_case_18 C0 A hAe k Q S adK adV ln by9 hK hZ i h0 hi1 hL H locs ls hI hS hl hk
                  · obtain rfl : v = 19 := by omega
                    refine lv_tableIn (off := 830) (tgt := 863) hx hb dL_law_33 (by decide) (by decide) rfl (by decide) ?_
                    exact law_case_19 C0 A hAe k Q S adK adV ln by9 hK hZ i h0 hi1 hL H locs ls hI hS hl hk
                · rcases Nat.lt_or_ge v 21 with h20_22 | h20_22
                  · obtain rfl : v = 20 := by omega
                    refine lv_tableIn (off := 843) (tgt := 876) hx hb dL_law_33 (by decide) (by decide) rfl (by decide) ?_
                    exact law_case_20 C0 A hAe k Q S adK adV ln by9 hK hZ i h0 hi1 hL H locs ls hI hS hl hk
                  · obtain rfl : v = 21 := by omega
                    refine lv_tableIn (off := 866) (tgt := 899) hx hb dL_law_33 (by decide) (by decide) rfl (by decide) ?_
                    exact law_case_21 C0 A hAe k Q S adK adV ln by9 hK hZ i h0 hi1 hL H locs ls hI hS hl hk
              · rcases Nat.lt_or_ge v 24 with h22_27 | h22_27
                · rcases Nat.lt_or_ge v 23 with h22_24 | h22_24
                  · obtain rfl : v = 22 := by omega
                    refine lv_tableIn (off := 879) (tgt := 912) hx hb dL_law_33 (by decide) (by decide) rfl (by decide) ?_
                    exact law_case_22 C0 A hAe k Q S adK adV ln by9 hK hZ i h0 hi1 hL H locs ls hI hS hl hk
                  · obtain rfl : v = 23 := by omega
                    refine lv_tableIn (off := 902) (tgt := 935) hx hb dL_law_33 (by decide) (by decide) rfl (by decide) ?_
                    exact law_case_23 C0 A hAe k Q S adK adV ln by9 hK hZ i h0 hi1 hL H locs ls hI hS hl hk
                · rcases Nat.lt_or_ge v 25 with h24_27 | h24_27
                  · obtain rfl : v = 24 := by omega
                    refine lv_tableIn (off := 925) (tgt := 958) hx hb dL_law_33 (by decide) (by decide) rfl (by decide) ?_
                    exact law_case_24 C0 A hAe k Q S adK adV ln by9 hK hZ i h0 hi1 hL H locs ls hI hS hl hk
                  · rcases Nat.lt_or_ge v 26 with h25_27 | h25_27
                    · obtain rfl : v = 25 := by omega
                      refine lv_tableIn (off := 938) (tgt := 971) hx hb dL_law_33 (by decide) (by decide) rfl (by decide) ?_
                      exact law_case_25 C0 A hAe k Q S adK adV ln by9 hK hZ i h0 hi1 hL H locs ls hI hS hl hk
                    · obtain rfl : v = 26 := by omega
                      refine lv_tableIn (off := 961) (tgt := 994) hx hb dL_law_33 (by decide) (by decide) rfl (by decide) ?_
                      exact law_case_26 C0 A hAe k Q S adK adV ln by9 hK hZ i h0 hi1 hL H locs ls hI hS hl hk
            · rcases Nat.lt_or_ge v 31 with h27_36 | h27_36
              · rcases Nat.lt_or_ge v 29 with h27_31 | h27_31
                · rcases Nat.lt_or_ge v 28 with h27_29 | h27_29
                  · obtain rfl : v = 27 := by omega
                    refine lv_tableIn (off := 984) (tgt := 1017) hx hb dL_law_33 (by decide) (by decide) rfl (by decide) ?_
                    exact law_case_27 C0 A hAe k Q S adK adV ln by9 hK hZ i h0 hi1 hL H locs ls hI hS hl hk
                  · obtain rfl : v = 28 := by omega
                    refine lv_tableIn (off := 1017) (tgt := 1050) hx hb dL_law_33 (by decide) (by decide) rfl (by decide) ?_
                    exact law_case_28 C0 A hAe k Q S adK adV ln by9 hK hZ i h0 hi1 hL H locs ls hI hS hl hk
                · rcases Nat.lt_or_ge v 30 with h29_31 | h29_31
                  · obtain rfl : v = 29 := by omega
                    refine lv_tableIn (off := 1040) (tgt := 1073) hx hb dL_law_33 (by decide) (by decide) rfl (by decide) ?_
                    exact law_case_29 C0 A hAe k Q S adK adV ln by9 hK hZ i h0 hi1 hL H locs ls hI hS hl hk
                  · obtain rfl : v = 30 := by omega
                    refine lv_tableIn (off := 1073) (tgt := 1106) hx hb dL_law_33 (by decide) (by decide) rfl (by decide) ?_
                    exact law_case_30 C0 A hAe k Q S adK adV ln by9 hK hZ i h0 hi1 hL H locs ls hI hS hl hk
              · rcases Nat.lt_or_ge v 33 with h31_36 | h31_36
                · rcases Nat.lt_or_ge v 32 with h31_33 | h31_33
                  · obtain rfl : v = 31 := by omega
                    refine lv_tableIn (off := 1106) (tgt := 1139) hx hb dL_law_33 (by decide) (by decide) rfl (by decide) ?_
                    exact law_case_31 C0 A hAe k Q S adK adV ln by9 hK hZ i h0 hi1 hL H locs ls hI hS hl hk
                  · obtain rfl : v = 32 := by omega
                    refine lv_tableIn (off := 1119) (tgt := 1152) hx hb dL_law_33 (by decide) (by decide) rfl (by decide) ?_
                    exact law_case_32 C0 A hAe k Q S adK adV ln by9 hK hZ i h0 hi1 hL H locs ls hI hS hl hk
                · rcases Nat.lt_or_ge v 34 with h33_36 | h33_36
                  · obtain rfl : v = 33 := by omega
                    refine lv_tableIn (off := 1142) (tgt := 1175) hx hb dL_law_33 (by decide) (by decide) rfl (by decide) ?_
                    exact law_case_33 C0 A hAe k Q S adK adV ln by9 hK hZ i h0 hi1 hL H locs ls hI hS hl hk
                  · rcases Nat.lt_or_ge v 35 with h34_36 | h34_36
                    · obtain rfl : v = 34 := by omega
                      refine lv_tableIn (off := 1155) (tgt := 1188) hx hb dL_law_33 (by decide) (by decide) rfl (by decide) ?_
                      exact law_case_34 C0 A hAe k Q S adK adV ln by9 hK hZ i h0 hi1 hL H locs ls hI hS hl hk
                    · obtain rfl : v = 35 := by omega
                      refine lv_tableIn (off := 1168) (tgt := 1201) hx hb dL_law_33 (by decide) (by decide) rfl (by decide) ?_
                      exact law_case_35 C0 A hAe k Q S adK adV ln by9 hK hZ i h0 hi1 hL H locs ls hI hS hl hk
        · rcases Nat.lt_or_ge v 54 with h36_72 | h36_72
          · rcases Nat.lt_or_ge v 45 with h36_54 | h36_54
            · rcases Nat.lt_or_ge v 40 with h36_45 | h36_45
              · rcases Nat.lt_or_ge v 38 with h36_40 | h36_40
                · rcases Nat.lt_or_ge v 37 with h36_38 | h36_38
                  · obtain rfl : v = 36 := by omega
                    refine lv_tableIn (off := 1181) (tgt := 1214) hx hb dL_law_33 (by decide) (by decide) rfl (by decide) ?_
                    exact law_case_36 C0 A hAe k Q S adK adV ln by9 hK hZ i h0 hi1 hL H locs ls hI hS hl hk
                  · obtain rfl : v = 37 := by omega
                    refine lv_tableIn (off := 1204) (tgt := 1237) hx hb dL_law_33 (by decide) (by decide) rfl (by decide) ?_
                    exact law_case_37 C0 A hAe k Q S adK adV ln by9 hK hZ i h0 hi1 hL H locs ls hI hS hl hk
                · rcases Nat.lt_or_ge v 39 with h38_40 | h38_40
                  · obtain rfl : v = 38 := by omega
                    refine lv_tableIn (off := 1217) (tgt := 1250) hx hb dL_law_33 (by decide) (by decide) rfl (by decide) ?_
                    exact law_case_38 C0 A hAe k Q S adK adV ln by9 hK hZ i h0 hi1 hL H locs ls hI hS hl hk
                  · obtain rfl : v = 39 := by omega
                    refine lv_tableIn (off := 1240) (tgt := 1273) hx hb dL_law_33 (by decide) (by decide) rfl (by decide) ?_
                    exact law_case_39 C0 A hAe k Q S adK adV ln by9 hK hZ i h0 hi1 hL H locs ls hI hS hl hk
              · rcases Nat.lt_or_ge v 42 with h40_45 | h40_45
                · rcases Nat.lt_or_ge v 41 with h40_42 | h40_42
                  · obtain rfl : v = 40 := by omega
                    refine lv_tableIn (off := 1253) (tgt := 1286) hx hb dL_law_33 (by decide) (by decide) rfl (by decide) ?_
                    exact law_case_40 C0 A hAe k Q S adK adV ln by9 hK hZ i h0 hi1 hL H locs ls hI hS hl hk
                  · obtain rfl : v = 41 := by omega
                    refine lv_tableIn (off := 1266) (tgt := 1299) hx hb dL_law_33 (by decide) (by decide) rfl (by decide) ?_
                    exact law_case_41 C0 A hAe k Q S adK adV ln by9 hK hZ i h0 hi1 hL H locs ls hI hS hl hk
                · rcases Nat.lt_or_ge v 43 with h42_45 | h42_45
                  · obtain rfl : v = 42 := by omega
                    refine lv_tableIn (off := 1299) (tgt := 1332) hx hb dL_law_33 (by decide) (by decide) rfl (by decide) ?_
                    exact law_case_42 C0 A hAe k Q S adK adV ln by9 hK hZ i h0 hi1 hL H locs ls hI hS hl hk
                  · rcases Nat.lt_or_ge v 44 with h43_45 | h43_45
                    · obtain rfl : v = 43 := by omega
                      refine lv_tableIn (off := 1332) (tgt := 1365) hx hb dL_law_33 (by decide) (by decide) rfl (by decide) ?_
                      exact law_case_43 C0 A hAe k Q S adK adV ln by9 hK hZ i h0 hi1 hL H locs ls hI hS hl hk
                    · obtain rfl : v = 44 := by omega
                      refine lv_tableIn (off := 1365) (tgt := 1398) hx hb dL_law_33 (by decide) (by decide) rfl (by decide) ?_
                      exact law_case_44 C0 A hAe k Q S adK adV ln by9 hK hZ i h0 hi1 hL H locs ls hI hS hl hk
            · rcases Nat.lt_or_ge v 49 with h45_54 | h45_54
              · rcases Nat.lt_or_ge v 47 with h45_49 | h45_49
                · rcases Nat.lt_or_ge v 46 with h45_47 | h45_47
                  · obtain rfl : v = 45 := by omega
                    refine lv_tableIn (off := 1398) (tgt := 1431) hx hb dL_law_33 (by decide) (by decide) rfl (by decide) ?_
                    exact law_case_45 C0 A hAe k Q S adK adV ln by9 hK hZ i h0 hi1 hL H locs ls hI hS hl hk
                  · obtain rfl : v = 46 := by omega
                    refine lv_tableIn (off := 1431) (tgt := 1464) hx hb dL_law_33 (by decide) (by decide) rfl (by decide) ?_
                    exact law_case_46 C0 A hAe k Q S adK adV ln by9 hK hZ i h0 hi1 hL H locs ls hI hS hl hk
                · rcases Nat.lt_or_ge v 48 with h47_49 | h47_49
                  · obtain rfl : v = 47 := by omega
                    refine lv_tableIn (off := 1464) (tgt := 1497) hx hb dL_law_33 (by decide) (by decide) rfl (by decide) ?_
                    exact law_case_47 C0 A hAe k Q S adK adV ln by9 hK hZ i h0 hi1 hL H locs ls hI hS hl hk
                  · obtain rfl : v = 48 := by omega
                    refine lv_tableIn (off := 1497) (tgt := 1530) hx hb dL_law_33 (by decide) (by decide) rfl (by decide) ?_
                    exact law_case_48 C0 A hAe k Q S adK adV ln by9 hK hZ i h0 hi1 hL H locs ls hI hS hl hk
              · rcases Nat.lt_or_ge v 51 with h49_54 | h49_54
                · rcases Nat.lt_or_ge v 50 with h49_51 | h49_51
                  · obtain rfl : v = 49 := by omega
                    refine lv_tableIn (off := 1530) (tgt := 1563) hx hb dL_law_33 (by decide) (by decide) rfl (by decide) ?_
                    exact law_case_49 C0 A hAe k Q S adK adV ln by9 hK hZ i h0 hi1 hL H locs ls hI hS hl hk
                  · obtain rfl : v = 50 := by omega
                    refine lv_tableIn (off := 1563) (tgt := 1596) hx hb dL_law_33 (by decide) (by decide) rfl (by decide) ?_
                    exact law_case_50 C0 A hAe k Q S adK adV ln by9 hK hZ i h0 hi1 hL H locs ls hI hS hl hk
                · rcases Nat.lt_or_ge v 52 with h51_54 | h51_54
                  · obtain rfl : v = 51 := by omega
                    refine lv_tableIn (off := 1586) (tgt := 1619) hx hb dL_law_33 (by decide) (by decide) rfl (by decide) ?_
                    exact law_case_51 C0 A hAe k Q S adK adV ln by9 hK hZ i h0 hi1 hL H locs ls hI hS hl hk
                  · rcases Nat.lt_or_ge v 53 with h52_54 | h52_54
                    · obtain rfl : v = 52 := by omega
                      refine lv_tableIn (off := 1609) (tgt := 1642) hx hb dL_law_33 (by decide) (by decide) rfl (by decide) ?_
                      exact law_case_52 C0 A hAe k Q S adK adV ln by9 hK hZ i h0 hi1 hL H locs ls hI hS hl hk
                    · obtain rfl : v = 53 := by omega
                      refine lv_tableIn (off := 1632) (tgt := 1665) hx hb dL_law_33 (by decide) (by decide) rfl (by decide) ?_
                      exact law_case_53 C0 A hAe k Q S adK adV ln by9 hK hZ i h0 hi1 hL H locs ls hI hS hl hk
          · rcases Nat.lt_or_ge v 63 with h54_72 | h54_72
            · rcases Nat.lt_or_ge v 58 with h54_63 | h54_63
              · rcases Nat.lt_or_ge v 56 with h54_58 | h54_58
                · rcases Nat.lt_or_ge v 55 with h54_56 | h54_56
                  · obtain rfl : v = 54 := by omega
                    refine lv_tableIn (off := 1645) (tgt := 1678) hx hb dL_law_33 (by decide) (by decide) rfl (by decide) ?_
                    exact law_case_54 C0 A hAe k Q S adK adV ln by9 hK hZ i h0 hi1 hL H locs ls hI hS hl hk
                  · obtain rfl : v = 55 := by omega
                    refine lv_tableIn (off := 1678) (tgt := 1711) hx hb dL_law_33 (by decide) (by decide) rfl (by decide) ?_
                    exact law_case_55 C0 A hAe k Q S adK adV ln by9 hK hZ i h0 hi1 hL H locs ls hI hS hl hk
                · rcases Nat.lt_or_ge v 57 with h56_58 | h56_58
                  · obtain rfl : v = 56 := by omega
                    refine lv_tableIn (off := 1711) (tgt := 1744) hx hb dL_law_33 (by decide) (by decide) rfl (by decide) ?_
                    exact law_case_56 C0 A hAe k Q S adK adV ln by9 hK hZ i h0 hi1 hL H locs ls hI hS hl hk
                  · obtain rfl : v = 57 := by omega
                    refine lv_tableIn (off := 1744) (tgt := 1777) hx hb dL_law_33 (by decide) (by decide) rfl (by decide) ?_
                    exact law_case_57 C0 A hAe k Q S adK adV ln by9 hK hZ i h0 hi1 hL H locs ls hI hS hl hk
              · rcases Nat.lt_or_ge v 60 with h58_63 | h58_63
                · rcases Nat.lt_or_ge v 59 with h58_60 | h58_60
                  · obtain rfl : v = 58 := by omega
                    refine lv_tableIn (off := 1777) (tgt := 1810) hx hb dL_law_33 (by decide) (by decide) rfl (by decide) ?_
                    exact law_case_58 C0 A hAe k Q S adK adV ln by9 hK hZ i h0 hi1 hL H locs ls hI hS hl hk
                  · obtain rfl : v = 59 := by omega
                    refine lv_tableIn (off := 1810) (tgt := 1843) hx hb dL_law_33 (by decide) (by decide) rfl (by decide) ?_
                    exact law_case_59 C0 A hAe k Q S adK adV ln by9 hK hZ i h0 hi1 hL H locs ls hI hS hl hk
                · rcases Nat.lt_or_ge v 61 with h60_63 | h60_63
                  · obtain rfl : v = 60 := by omega
                    refine lv_tableIn (off := 1843) (tgt := 1876) hx hb dL_law_33 (by decide) (by decide) rfl (by decide) ?_
                    exact law_case_60 C0 A hAe k Q S adK adV ln by9 hK hZ i h0 hi1 hL H locs ls hI hS hl hk
                  · rcases Nat.lt_or_ge v 62 with h61_63 | h61_63
                    · obtain rfl : v = 61 := by omega
                      refine lv_tableIn (off := 1876) (tgt := 1909) hx hb dL_law_33 (by decide) (by decide) rfl (by decide) ?_
                      exact law_case_61 C0 A hAe k Q S adK adV ln by9 hK hZ i h0 hi1 hL H locs ls hI hS hl hk
                    · obtain rfl : v = 62 := by omega
                      refine lv_tableIn (off := 1889) (tgt := 1922) hx hb dL_law_33 (by decide) (by decide) rfl (by decide) ?_
                      exact law_case_62 C0 A hAe k Q S adK adV ln by9 hK hZ i h0 hi1 hL H locs ls hI hS hl hk
            · rcases Nat.lt_or_ge v 67 with h63_72 | h63_72
              · rcases Nat.lt_or_ge v 65 with h63_67 | h63_67
                · rcases Nat.lt_or_ge v 64 with h63_65 | h63_65
                  · obtain rfl : v = 63 := by omega
                    refine lv_tableIn (off := 1902) (tgt := 1935) hx hb dL_law_33 (by decide) (by decide) rfl (by decide) ?_
                    exact law_case_63 C0 A hAe k Q S adK adV ln by9 hK hZ i h0 hi1 hL H locs ls hI hS hl hk
                  · obtain rfl : v = 64 := by omega
                    refine lv_tableIn (off := 1935) (tgt := 1968) hx hb dL_law_33 (by decide) (by decide) rfl (by decide) ?_
                    exact law_case_64 C0 A hAe k Q S adK adV ln by9 hK hZ i h0 hi1 hL H locs ls hI hS hl hk
                · rcases Nat.lt_or_ge v 66 with h65_67 | h65_67
                  · obtain rfl : v = 65 := by omega
                    refine lv_tableIn (off := 1978) (tgt := 2011) hx hb dL_law_33 (by decide) (by decide) rfl (by decide) ?_
                    exact law_case_65 C0 A hAe k Q S adK adV ln by9 hK hZ i h0 hi1 hL H locs ls hI hS hl hk
                  · obtain rfl : v = 66 := by omega
                    refine lv_tableIn (off := 2011) (tgt := 2044) hx hb dL_law_33 (by decide) (by decide) rfl (by decide) ?_
                    exact law_case_66 C0 A hAe k Q S adK adV ln by9 hK hZ i h0 hi1 hL H locs ls hI hS hl hk
              · rcases Nat.lt_or_ge v 69 with h67_72 | h67_72
                · rcases Nat.lt_or_ge v 68 with h67_69 | h67_69
                  · obtain rfl : v = 67 := by omega
                    refine lv_tableIn (off := 2034) (tgt := 2067) hx hb dL_law_33 (by decide) (by decide) rfl (by decide) ?_
                    exact law_case_67 C0 A hAe k Q S adK adV ln by9 hK hZ i h0 hi1 hL H locs ls hI hS hl hk
                  · obtain rfl : v = 68 := by omega
                    refine lv_tableIn (off := 2057) (tgt := 2090) hx hb dL_law_33 (by decide) (by decide) rfl (by decide) ?_
                    exact law_case_68 C0 A hAe k Q S adK adV ln by9 hK hZ i h0 hi1 hL H locs ls hI hS hl hk
                · rcases Nat.lt_or_ge v 70 with h69_72 | h69_72
                  · obtain rfl : v = 69 := by omega
                    refine lv_tableIn (off := 2080) (tgt := 2113) hx hb dL_law_33 (by decide) (by decide) rfl (by decide) ?_
                    exact law_case_69 C0 A hAe k Q S adK adV ln by9 hK hZ i h0 hi1 hL H locs ls hI hS hl hk
                  · rcases Nat.lt_or_ge v 71 with h70_72 | h70_72
                    · obtain rfl : v = 70 := by omega
                      refine lv_tableIn (off := 2123) (tgt := 2156) hx hb dL_law_33 (by decide) (by decide) rfl (by decide) ?_
                      exact law_case_70 C0 A hAe k Q S adK adV ln by9 hK hZ i h0 hi1 hL H locs ls hI hS hl hk
                    · obtain rfl : v = 71 := by omega
                      refine lv_tableIn (off := 2196) (tgt := 2229) hx hb dL_law_33 (by decide) (by decide) rfl (by decide) ?_
                      exact law_case_71 C0 A hAe k Q S adK adV ln by9 hK hZ i h0 hi1 hL H locs ls hI hS hl hk
      · have ht : (nI v).toInt = (v : Int) := nI_toInt (by omega)
        refine lv_tableOut (tgt := 2292) hx hb dL_law_33 (by rw [ht]; omega) (by decide) ?_
        exact hk H locs ls hI hS hl
