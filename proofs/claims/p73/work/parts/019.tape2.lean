def wk_c_X9_parse : List Cond := .code yX9_parse cX9_parse 2 (some .boolean) :: ([.fieldLink RX9 18 "SagMemory$Tape" "read" "LSagMemory$Valley;", .methodLink RX9 29 yX10_clear, .instanceMethod yX10_clear, .selects RX10 yX10_clear yX10_clear, .initialized RX10, .fieldLink RX9 32 "SagMemory$Tape" "fault" "I", .fieldLink RX9 22 "SagMemory$Tape" "place" "I", .fieldLink RX9 35 "SagMemory$Tape" "at" "I", .methodLink RX9 38 yX9_next, .instanceMethod yX9_next, .selects RX9 yX9_next yX9_next, .initialized RX9, .fieldLink RX9 41 "SagMemory$Tape" "kind" "I", .methodLink RX9 44 yX9_parseLine, .instanceMethod yX9_parseLine, .selects RX9 yX9_parseLine yX9_parseLine, .fieldLink RX9 48 "SagMemory$Valley" "lines" "I"] ++ (wsX90 ++ (wk_c_X10_clear ++ (wk_c_X9_next ++ (wk_c_X9_parseLine ++ (wsX100 ++ []))))))
theorem wkg_c_X9_parse : wk_c_X9_parse.all goodWord = true := by decide +kernel
set_option maxHeartbeats 4000000 in
set_option maxRecDepth 100000 in
theorem c_X9_parse (l : Launch) (dC : Nat → ClassId) (dI : Nat → Nat → Nat) (k : Nat → ClassId) (sz : Nat) (adK adV ln : Nat → Nat) (by9 : Nat → Nat → Int32) (qT : Nat → Nat) (vT : Nat → Int32) (tT : Nat → Int32) (aT : Nat → Nat → Int32) (qB : Nat → Nat) (vB : Nat → Int32) (bB : Nat → Int32) (cB : Nat → Int32) (wB : Nat → Int32) (aB : Nat → Nat → Int32) (eB : Nat → Nat → Int32) (htT : Rg 0 700 tT) (hbB : Rg 0 3 bB) (hcB : Rg 0 7 cB) (hwB : Rg 0 5 wB) (heB : RgA 0 99 eB) : Met l yX9_parse wk_c_X9_parse ({ frames := 8, cells := 0, slots := 0, locals := 169 }) (va_Pc [.ref (qT 0)] (fun U => U.heap.size = sz ∧ va_P (dC, dI) vwCl (List.flatten [(wTape qT k (qB 0) vT tT aT), (wValley qB k vB bB cB wB aB eB)] ++ List.flatten ([] : List va_W)) U.heap ∧ va_K (dC, dI) vwCl (tK k) U ∧ va_D (fun _ => True) (List.flatten [(wTape qT k (qB 0) vT tT aT), (wValley qB k vB bB cB wB aB eB)] ++ List.flatten ([] : List va_W)) ∧ Zt adK adV ln by9 (va_A (List.flatten [(wTape qT k (qB 0) vT tT aT), (wValley qB k vB bB cB wB aB eB)] ++ List.flatten ([] : List va_W)) sz) U U.heap)) (va_Qi (fun (r : Int32) (_ : Unit) => (r.toInt = 0 ∨ r.toInt = 1)) (fun (_ : Unit) (t : State) => ∃ (vT' : Nat → Int32) (tT' : Nat → Int32) (aT' : Nat → Nat → Int32) (vB' : Nat → Int32) (bB' : Nat → Int32) (cB' : Nat → Int32) (wB' : Nat → Int32) (aB' : Nat → Nat → Int32) (eB' : Nat → Nat → Int32), Rg 0 700 tT' ∧ Rg 0 3 bB' ∧ Rg 0 7 cB' ∧ Rg 0 5 wB' ∧ RgA 0 99 eB' ∧ va_P (dC, dI) vwCl (List.flatten [(wTape qT k (qB 0) vT' tT' aT'), (wValley qB k vB' bB' cB' wB' aB' eB')] ++ List.flatten ([] : List va_W)) t.heap) (va_A (List.flatten [(wTape qT k (qB 0) vT tT aT), (wValley qB k vB bB cB wB aB eB)] ++ List.flatten ([] : List va_W)) sz)) 0 0 (va_A (List.flatten [(wTape qT k (qB 0) vT tT aT), (wValley qB k vB bB cB wB aB eB)] ++ List.flatten ([] : List va_W)) sz) := by
  refine Met.ofW (cc := cX9_parse) (maxL := 2) (ret := (some .boolean)) (by decide) rfl ?_
  intro p e s m args below meth c s₁ B hml hv
  obtain ⟨rfl, hsz, hP, hK, hD0, hZ⟩ := hv
  have hx := B.exec
  have hb := B.bytes
  have hr := B.returns
  have hts := atoms_spec (ws := wk_c_X9_parse) B.pre
  have hown : s.vm.findClass RX9 = some m.cls := findClass_of_methodNamed B.named
  have hlocks := B.notSynchronized
  subst hsz
  have hD := hD0.self (sz := s.heap.size)
  generalize hAe : va_A (List.flatten [(wTape qT k (qB 0) vT tT aT), (wValley qB k vB bB cB wB aB eB)] ++ List.flatten ([] : List va_W)) s.heap.size = A at hD hZ ⊢
  have hA : ∀ q : Nat, s.heap.size ≤ q → A q := fun q h => by rw [← hAe]; exact Or.inr h
  have hS : va_S A s.heap s.heap [] := va_S.rf
  have hP : va_P (dC, dI) vwCl (List.flatten [(wTape qT k (qB 0) vT tT aT), (wValley qB k vB bB cB wB aB eB)] ++ List.flatten ([] : List va_W)) s.heap := hP
  have hl := lv_entry ([.ref (qT 0)]) (n := 2) (Nat.le_of_ble_eq_true rfl)
  rw [lg_entry_eq]
  generalize (lg_sl ([.ref (qT 0)]) ++ List.replicate (2 - (lg_sl ([.ref (qT 0)])).length) Slot.unset).toArray = ls at hl ⊢
  have hl : lv_has ls 2 [(0, .ref (qT 0))] := hl
  refine w_gen (fun Q hQ => ?_)
  refine lv_aload_n hx hb dX9_parse_0 rfl (lv_at hl 0 rfl) ?_
  refine va_get (D := (dC, dI)) (ci := 9) (v := .ref (qB 0)) (C := RX9) (T := TX9) (N := 10) hx hb hts (fun w h => List.mem_cons_of_mem _ (List.mem_append_right _ (List.mem_append_left _ h))) hown hK hP 0 rfl rfl 1 (by decide) (hts (.fieldLink RX9 18 "SagMemory$Tape" "read" "LSagMemory$Valley;") (wl_mem 0 rfl)) (fun _ h9 => h9) rfl dX9_parse_1 ?_
  have hPc := hP.sub (ws' := (List.flatten [(wValley qB k vB bB cB wB aB eB)] ++ List.flatten ([] : List va_W))) [2, 3, 4, 5, 6, 7, 8, 9] rfl
  have hC : [2, 3, 4, 5, 6, 7, 8, 9].map (fun i => (List.flatten [(wTape qT k (qB 0) vT tT aT), (wValley qB k vB bB cB wB aB eB)] ++ List.flatten ([] : List va_W))[i]?) = (List.flatten [(wValley qB k vB bB cB wB aB eB)] ++ List.flatten ([] : List va_W)).map some := rfl
  have hDc := hD.sub [2, 3, 4, 5, 6, 7, 8, 9] (by decide) hC
  have hFc := va_free hD hS hA [2, 3, 4, 5, 6, 7, 8, 9] hC
  refine va_callv (va_runV (As := []) (rest := []) ⟨hx, hb, hml, hown, hts⟩ (c_X10_clear l dC dI k s.heap.size qB vB bB cB wB aB eB hbB hcB hwB heB) (cwV 0 hts (gk_V (wl_mem 1 rfl) (wl_mem 2 rfl) (wl_mem 3 rfl) (wl_mem 4 rfl) (fun w h => List.mem_cons_of_mem _ (List.mem_append_right _ (List.mem_append_right _ (List.mem_append_left _ h)))) wkg_c_X10_clear) rfl rfl rfl (by decide +kernel) ⟨Nat.le_of_ble_eq_true rfl, Nat.le_of_ble_eq_true rfl⟩) ⟨fun a U g mk q => by obtain ⟨q0, q1, qP, qK, qD⟩ := q; exact ⟨q0, q1, qP, va_K.moved (u := U) (U := U.calling g mk a) (Vm.Alike.refl U.vm) qK, qD⟩, va_recv hK hPc (ci := 10) (q0 := 0) rfl rfl, fun U hU hW => ⟨rfl, by rw [hU], by rw [hU]; exact hPc, va_K.moved hW.alike hK, hDc.weaken (fun _ _ _ _ => trivial)⟩⟩ rfl rfl hl.1 rfl (lv_room (Nat.le_of_ble_eq_true rfl)) dX9_parse_4 ⟨Nat.le_of_ble_eq_true rfl, Nat.le_of_ble_eq_true rfl⟩) hS (fun q _ h => hFc q h) hFc (fun u t H1 locs ht hvm gz1 hB hz1 hk1 hS => ?_)
  obtain ⟨vz3, bz4, cz5, wz6, az7, ez8, hbz4, hcz5, hwz6, hez8, hP1⟩ := hB
  rw [ht] at hP1
  obtain ⟨hP, hD⟩ := w_callR hP hD hk1 hP1 [1] rfl rfl (fun _ h => absurd h List.not_mem_nil) rfl [none, some 0] rfl rfl
  clear hPc hC hDc hFc hk1 hP1
  generalize H1 = H at hP hS ⊢
  have hP : va_P (dC, dI) vwCl (List.flatten [(wTape qT k (qB 0) vT tT aT), (wValley qB k vz3 bz4 cz5 wz6 az7 ez8)] ++ List.flatten ([] : List va_W)) H := hP
  have hD : va_D A (List.flatten [(wTape qT k (qB 0) vT tT aT), (wValley qB k vz3 bz4 cz5 wz6 az7 ez8)] ++ List.flatten ([] : List va_W)) := hD
  refine W.widen (k := 0) (n := 0) (Nat.le_refl 0) (Nat.le_refl 0) ?_
  refine lv_aload_n hx hb dX9_parse_7 rfl (lv_at hl 0 rfl) ?_
  refine lv_iconst (v := 0) hx hb dX9_parse_8 (by decide) ?_
  refine va_put (D := (dC, dI)) (ci := 9) (v := .int 0) (ty := .int) (C := RX9) (T := TX9) (N := 10) hx hb hts (fun w h => List.mem_cons_of_mem _ (List.mem_append_right _ (List.mem_append_left _ h))) tyX9 tyX9_ok nmX9 hown hK hP hD hS 0 rfl rfl 3 (by decide) (hts (.fieldLink RX9 32 "SagMemory$Tape" "fault" "I") (wl_mem 5 rfl)) (fun _ h9 => h9) rfl (by decide +kernel) rfl rfl (Nat.le_of_ble_eq_true rfl) dX9_parse_9 (fun H locs hP hD hS => ?_)
  have hP : va_P (dC, dI) vwCl (List.flatten [(wTape qT k (qB 0) (va_up vT 0 (0 : Int32)) tT aT), (wValley qB k vz3 bz4 cz5 wz6 az7 ez8)] ++ List.flatten ([] : List va_W)) H := hP
  have hD : va_D A (List.flatten [(wTape qT k (qB 0) (va_up vT 0 (0 : Int32)) tT aT), (wValley qB k vz3 bz4 cz5 wz6 az7 ez8)] ++ List.flatten ([] : List va_W)) := hD
  refine lv_aload_n hx hb dX9_parse_12 rfl (lv_at hl 0 rfl) ?_
  refine lv_iconst (v := (-1)) hx hb dX9_parse_13 (by decide) ?_
  refine va_put (D := (dC, dI)) (ci := 9) (v := .int (-1)) (ty := .int) (C := RX9) (T := TX9) (N := 10) hx hb hts (fun w h => List.mem_cons_of_mem _ (List.mem_append_right _ (List.mem_append_left _ h))) tyX9 tyX9_ok nmX9 hown hK hP hD hS 0 rfl rfl 4 (by decide) (hts (.fieldLink RX9 22 "SagMemory$Tape" "place" "I") (wl_mem 6 rfl)) (fun _ h9 => h9) rfl (by decide +kernel) rfl rfl (Nat.le_of_ble_eq_true rfl) dX9_parse_14 (fun H locs hP hD hS => ?_)
  have hP : va_P (dC, dI) vwCl (List.flatten [(wTape qT k (qB 0) (va_up (va_up vT 0 (0 : Int32)) 1 (-1 : Int32)) tT aT), (wValley qB k vz3 bz4 cz5 wz6 az7 ez8)] ++ List.flatten ([] : List va_W)) H := hP
  have hD : va_D A (List.flatten [(wTape qT k (qB 0) (va_up (va_up vT 0 (0 : Int32)) 1 (-1 : Int32)) tT aT), (wValley qB k vz3 bz4 cz5 wz6 az7 ez8)] ++ List.flatten ([] : List va_W)) := hD
  refine lv_aload_n hx hb dX9_parse_17 rfl (lv_at hl 0 rfl) ?_
  refine lv_iconst (v := 0) hx hb dX9_parse_18 (by decide) ?_
  refine va_put (D := (dC, dI)) (ci := 9) (v := .int 0) (ty := .int) (C := RX9) (T := TX9) (N := 10) hx hb hts (fun w h => List.mem_cons_of_mem _ (List.mem_append_right _ (List.mem_append_left _ h))) tyX9 tyX9_ok nmX9 hown hK hP hD hS 0 rfl rfl 5 (by decide) (hts (.fieldLink RX9 35 "SagMemory$Tape" "at" "I") (wl_mem 7 rfl)) (fun _ h9 => h9) rfl (by decide +kernel) rfl rfl (Nat.le_of_ble_eq_true rfl) dX9_parse_19 (fun H locs hP hD hS => ?_)
  have hP : va_P (dC, dI) vwCl (List.flatten [(wTape qT k (qB 0) (va_up (va_up vT 0 (0 : Int32)) 1 (-1 : Int32)) (va_up tT 1 (0 : Int32)) aT), (wValley qB k vz3 bz4 cz5 wz6 az7 ez8)] ++ List.flatten ([] : List va_W)) H := hP
  have hD : va_D A (List.flatten [(wTape qT k (qB 0) (va_up (va_up vT 0 (0 : Int32)) 1 (-1 : Int32)) (va_up tT 1 (0 : Int32)) aT), (wValley qB k vz3 bz4 cz5 wz6 az7 ez8)] ++ List.flatten ([] : List va_W)) := hD
  refine lv_aload_n hx hb dX9_parse_22 rfl (lv_at hl 0 rfl) ?_
  have hPc := hP.sub (ws' := (List.flatten [(wTape qT k (qB 0) (va_up (va_up vT 0 (0 : Int32)) 1 (-1 : Int32)) (va_up tT 1 (0 : Int32)) aT)] ++ List.flatten ([] : List va_W))) [0, 1] rfl
  have hC : [0, 1].map (fun i => (List.flatten [(wTape qT k (qB 0) (va_up (va_up vT 0 (0 : Int32)) 1 (-1 : Int32)) (va_up tT 1 (0 : Int32)) aT), (wValley qB k vz3 bz4 cz5 wz6 az7 ez8)] ++ List.flatten ([] : List va_W))[i]?) = (List.flatten [(wTape qT k (qB 0) (va_up (va_up vT 0 (0 : Int32)) 1 (-1 : Int32)) (va_up tT 1 (0 : Int32)) aT)] ++ List.flatten ([] : List va_W)).map some := rfl
  have hDc := hD.sub [0, 1] (by decide) hC
  have hFc := va_free hD hS hA [0, 1] hC
  refine va_callv (va_runV (As := []) (rest := []) ⟨hx, hb, hml, hown, hts⟩ (c_X9_next l dC dI k H.size qT (qB 0) (va_up (va_up vT 0 (0 : Int32)) 1 (-1 : Int32)) (va_up tT 1 (0 : Int32)) aT (rg_up htT (by show 0 ≤ (0 : Int) ∧ (0 : Int) ≤ 700; omega))) (cwV 0 hts (gk_V (wl_mem 8 rfl) (wl_mem 9 rfl) (wl_mem 10 rfl) (wl_mem 11 rfl) (fun w h => List.mem_cons_of_mem _ (List.mem_append_right _ (List.mem_append_right _ (List.mem_append_right _ (List.mem_append_left _ h))))) wkg_c_X9_next) rfl rfl rfl (by decide +kernel) ⟨Nat.le_of_ble_eq_true rfl, Nat.le_of_ble_eq_true rfl⟩) ⟨fun a U g mk q => by obtain ⟨q0, q1, qP, qK, qD⟩ := q; exact ⟨q0, q1, qP, va_K.moved (u := U) (U := U.calling g mk a) (Vm.Alike.refl U.vm) qK, qD⟩, va_recv hK hPc (ci := 9) (q0 := 0) rfl rfl, fun U hU hW => ⟨rfl, by rw [hU], by rw [hU]; exact hPc, va_K.moved hW.alike hK, hDc.weaken (fun _ _ _ _ => trivial)⟩⟩ rfl rfl hl.1 rfl (lv_room (Nat.le_of_ble_eq_true rfl)) dX9_parse_23 ⟨Nat.le_of_ble_eq_true rfl, Nat.le_of_ble_eq_true rfl⟩) hS (fun q _ h => hFc q h) hFc (fun u t H1 locs ht hvm gz9 hB hz1 hk1 hS => ?_)
  obtain ⟨vz11, tz12, az13, htz12, pz14, hP1⟩ := hB
  rw [ht] at hP1
  obtain ⟨hP, hD⟩ := w_callR hP hD hk1 hP1 [0] rfl rfl (fun _ h => absurd h List.not_mem_nil) rfl [some 0, none] rfl rfl
  clear hPc hC hDc hFc hk1 hP1
  generalize H1 = H at hP hS ⊢
  have hP : va_P (dC, dI) vwCl (List.flatten [(wTape qT k (qB 0) vz11 tz12 az13), (wValley qB k vz3 bz4 cz5 wz6 az7 ez8)] ++ List.flatten ([] : List va_W)) H := hP
  have hD : va_D A (List.flatten [(wTape qT k (qB 0) vz11 tz12 az13), (wValley qB k vz3 bz4 cz5 wz6 az7 ez8)] ++ List.flatten ([] : List va_W)) := hD
  refine W.widen (k := 0) (n := 0) (Nat.le_refl 0) (Nat.le_refl 0) ?_
  have pz14 : (vz11 4).toInt = (vT 4).toInt := pz14
  refine lv_iconst (v := 0) hx hb dX9_parse_26 (by decide) ?_
  refine lv_istore_n (lv' := [(1, .int 0), (0, .ref (qT 0))]) hx hb dX9_parse_27 rfl hl (by decide) rfl (fun ls hl => ?_)
  have lp28_kz69 : ∀ (n9_28 : Nat) (H : Heap) (locs : List Loc) (ls : Array Slot) (az59 : Nat → Nat → Int32) (bz60 : Nat → Int32) (cz61 : Nat → Int32) (ez62 : Nat → Nat → Int32) (vz63 : Nat → Int32) (wz64 : Nat → Int32) (az65 : Nat → Nat → Int32) (tz66 : Nat → Int32) (vz67 : Nat → Int32) (xz68 : Int32), (2147483647 - xz68.toInt).toNat < n9_28 → Rg 0 3 bz60 → Rg 0 7 cz61 → RgA 0 99 ez62 → Rg 0 5 wz64 → Rg 0 700 tz66 → 0 ≤ xz68.toInt → va_P (dC, dI) vwCl (List.flatten [(wTape qT k (qB 0) vz67 tz66 az65), (wValley qB k vz63 bz60 cz61 wz64 az59 ez62)] ++ List.flatten ([] : List va_W)) H → va_D A (List.flatten [(wTape qT k (qB 0) vz67 tz66 az65), (wValley qB k vz63 bz60 cz61 wz64 az59 ez62)] ++ List.flatten ([] : List va_W)) → va_S A s.heap H locs → lv_has ls 2 [(0, .ref (qT 0)), (1, .int xz68)] → W p l e (headSpec wk_c_X9_parse ({ frames := 8, cells := 0, slots := 0, locals := 169 })).room s m ([.ref (qT 0)] : List Value).toArray below meth c H locs 0 0 Q (F0 m 28 ls []) := by
    intro n9_28
    induction n9_28 with
    | zero => intro H locs ls az59 bz60 cz61 ez62 vz63 wz64 az65 tz66 vz67 xz68 hm; exact absurd hm (Nat.not_lt_zero _)
    | succ n9_28 ih28 =>
      intro H locs ls az59 bz60 cz61 ez62 vz63 wz64 az65 tz66 vz67 xz68 hm28 hbz60 hcz61 hez62 hwz64 htz66 jz70 hP hD hS hl
      refine lv_iload_n hx hb dX9_parse_28 rfl (lv_at hl 1 rfl) ?_
      refine lv_sipush (v := 700) hx hb dX9_parse_29 (by decide) ?_
      refine lv_icmp_ge (tgt := 75) hx hb dX9_parse_32 (by decide) (fun cz71 => ?_) (fun cz71 => ?_)
      · skip
        have bz72 := fb_rng xz68
        have zz73 : (700 : Int) ≤ xz68.toInt := zi_le.mp cz71
        refine lv_aload_n hx hb dX9_parse_75 rfl (lv_at hl 0 rfl) ?_
        refine va_get (D := (dC, dI)) (ci := 9) (v := .int (vz67 0)) (C := RX9) (T := TX9) (N := 10) hx hb hts (fun w h => List.mem_cons_of_mem _ (List.mem_append_right _ (List.mem_append_left _ h))) hown hK hP 0 rfl rfl 3 (by decide) (hts (.fieldLink RX9 32 "SagMemory$Tape" "fault" "I") (wl_mem 5 rfl)) (fun _ h9 => h9) rfl dX9_parse_76 ?_
        refine lv_if_ne (tgt := 86) hx hb dX9_parse_79 (by decide) (fun cz74 => ?_) (fun cz74 => ?_)
        · skip
          have zz75 : ¬ (vz67 0).toInt = (0 : Int) := fun h9 => cz74 (zi_eq.mpr h9)
          refine lv_iconst (v := 0) hx hb dX9_parse_86 (by decide) ?_
          rw [hQ]
          exact W.zret (v := (0 : Int32)) hx hb hr rfl (fun t ht hW => ⟨⟨(0 : Int32), (), rfl, (by show (0 : Int) = 0 ∨ (0 : Int) = 1; omega), vz67, tz66, az65, vz63, bz60, cz61, wz64, az59, ez62, htz66, hbz60, hcz61, hwz64, hez62, by rw [ht]; exact hP⟩, hS.F ht⟩) hS.2.2 dX9_parse_87
        · skip
          have zz76 : (vz67 0).toInt = (0 : Int) := zi_eq.mp cz74
          refine lv_iconst (v := 1) hx hb dX9_parse_82 (by decide) ?_
          refine lv_goto (tgt := 87) hx hb dX9_parse_83 (by decide) ?_
          rw [hQ]
          exact W.zret (v := (1 : Int32)) hx hb hr rfl (fun t ht hW => ⟨⟨(1 : Int32), (), rfl, (by show (1 : Int) = 0 ∨ (1 : Int) = 1; omega), vz67, tz66, az65, vz63, bz60, cz61, wz64, az59, ez62, htz66, hbz60, hcz61, hwz64, hez62, by rw [ht]; exact hP⟩, hS.F ht⟩) hS.2.2 dX9_parse_87
      · skip
        have bz77 := fb_rng xz68
        have zz78 : ¬ (700 : Int) ≤ xz68.toInt := fun h9 => cz71 (zi_le.mpr h9)
        refine lv_aload_n hx hb dX9_parse_35 rfl (lv_at hl 0 rfl) ?_
        refine va_get (D := (dC, dI)) (ci := 9) (v := .int (vz67 2)) (C := RX9) (T := TX9) (N := 10) hx hb hts (fun w h => List.mem_cons_of_mem _ (List.mem_append_right _ (List.mem_append_left _ h))) hown hK hP 0 rfl rfl 6 (by decide) (hts (.fieldLink RX9 41 "SagMemory$Tape" "kind" "I") (wl_mem 12 rfl)) (fun _ h9 => h9) rfl dX9_parse_36 ?_
        refine lv_if_eq (tgt := 75) hx hb dX9_parse_39 (by decide) (fun cz79 => ?_) (fun cz79 => ?_)
        · skip
          have zz80 : (vz67 2).toInt = (0 : Int) := zi_eq.mp cz79
          refine lv_aload_n hx hb dX9_parse_75 rfl (lv_at hl 0 rfl) ?_
          refine va_get (D := (dC, dI)) (ci := 9) (v := .int (vz67 0)) (C := RX9) (T := TX9) (N := 10) hx hb hts (fun w h => List.mem_cons_of_mem _ (List.mem_append_right _ (List.mem_append_left _ h))) hown hK hP 0 rfl rfl 3 (by decide) (hts (.fieldLink RX9 32 "SagMemory$Tape" "fault" "I") (wl_mem 5 rfl)) (fun _ h9 => h9) rfl dX9_parse_76 ?_
          refine lv_if_ne (tgt := 86) hx hb dX9_parse_79 (by decide) (fun cz81 => ?_) (fun cz81 => ?_)
          · skip
            have zz82 : ¬ (vz67 0).toInt = (0 : Int) := fun h9 => cz81 (zi_eq.mpr h9)
            refine lv_iconst (v := 0) hx hb dX9_parse_86 (by decide) ?_
            rw [hQ]
            exact W.zret (v := (0 : Int32)) hx hb hr rfl (fun t ht hW => ⟨⟨(0 : Int32), (), rfl, (by show (0 : Int) = 0 ∨ (0 : Int) = 1; omega), vz67, tz66, az65, vz63, bz60, cz61, wz64, az59, ez62, htz66, hbz60, hcz61, hwz64, hez62, by rw [ht]; exact hP⟩, hS.F ht⟩) hS.2.2 dX9_parse_87
          · skip
            have zz83 : (vz67 0).toInt = (0 : Int) := zi_eq.mp cz81
            refine lv_iconst (v := 1) hx hb dX9_parse_82 (by decide) ?_
            refine lv_goto (tgt := 87) hx hb dX9_parse_83 (by decide) ?_
            rw [hQ]
            exact W.zret (v := (1 : Int32)) hx hb hr rfl (fun t ht hW => ⟨⟨(1 : Int32), (), rfl, (by show (1 : Int) = 0 ∨ (1 : Int) = 1; omega), vz67, tz66, az65, vz63, bz60, cz61, wz64, az59, ez62, htz66, hbz60, hcz61, hwz64, hez62, by rw [ht]; exact hP⟩, hS.F ht⟩) hS.2.2 dX9_parse_87
        · skip
          have zz84 : ¬ (vz67 2).toInt = (0 : Int) := fun h9 => cz79 (zi_eq.mpr h9)
          refine lv_aload_n hx hb dX9_parse_42 rfl (lv_at hl 0 rfl) ?_
          refine va_get (D := (dC, dI)) (ci := 9) (v := .int (vz67 0)) (C := RX9) (T := TX9) (N := 10) hx hb hts (fun w h => List.mem_cons_of_mem _ (List.mem_append_right _ (List.mem_append_left _ h))) hown hK hP 0 rfl rfl 3 (by decide) (hts (.fieldLink RX9 32 "SagMemory$Tape" "fault" "I") (wl_mem 5 rfl)) (fun _ h9 => h9) rfl dX9_parse_43 ?_
          refine lv_if_ne (tgt := 75) hx hb dX9_parse_46 (by decide) (fun cz85 => ?_) (fun cz85 => ?_)
          · skip
            have zz86 : ¬ (vz67 0).toInt = (0 : Int) := fun h9 => cz85 (zi_eq.mpr h9)
            refine lv_aload_n hx hb dX9_parse_75 rfl (lv_at hl 0 rfl) ?_
            refine va_get (D := (dC, dI)) (ci := 9) (v := .int (vz67 0)) (C := RX9) (T := TX9) (N := 10) hx hb hts (fun w h => List.mem_cons_of_mem _ (List.mem_append_right _ (List.mem_append_left _ h))) hown hK hP 0 rfl rfl 3 (by decide) (hts (.fieldLink RX9 32 "SagMemory$Tape" "fault" "I") (wl_mem 5 rfl)) (fun _ h9 => h9) rfl dX9_parse_76 ?_
            refine lv_if_ne (tgt := 86) hx hb dX9_parse_79 (by decide) (fun cz87 => ?_) (fun cz87 => ?_)
            · skip
              have zz88 : ¬ (vz67 0).toInt = (0 : Int) := fun h9 => cz87 (zi_eq.mpr h9)
              refine lv_iconst (v := 0) hx hb dX9_parse_86 (by decide) ?_
              rw [hQ]
              exact W.zret (v := (0 : Int32)) hx hb hr rfl (fun t ht hW => ⟨⟨(0 : Int32), (), rfl, (by show (0 : Int) = 0 ∨ (0 : Int) = 1; omega), vz67, tz66, az65, vz63, bz60, cz61, wz64, az59, ez62, htz66, hbz60, hcz61, hwz64, hez62, by rw [ht]; exact hP⟩, hS.F ht⟩) hS.2.2 dX9_parse_87
            · skip
              have zz89 : (vz67 0).toInt = (0 : Int) := zi_eq.mp cz87
              omega
          · skip
            have zz90 : (vz67 0).toInt = (0 : Int) := zi_eq.mp cz85
            refine lv_aload_n hx hb dX9_parse_49 rfl (lv_at hl 0 rfl) ?_
            have hPc := hP
            have hC : [0, 1, 2, 3, 4, 5, 6, 7, 8, 9].map (fun i => (List.flatten [(wTape qT k (qB 0) vz67 tz66 az65), (wValley qB k vz63 bz60 cz61 wz64 az59 ez62)] ++ List.flatten ([] : List va_W))[i]?) = (List.flatten [(wTape qT k (qB 0) vz67 tz66 az65), (wValley qB k vz63 bz60 cz61 wz64 az59 ez62)] ++ List.flatten ([] : List va_W)).map some := rfl
            have hDc := hD.sub [0, 1, 2, 3, 4, 5, 6, 7, 8, 9] (by decide) hC
            have hFc := va_free hD hS hA [0, 1, 2, 3, 4, 5, 6, 7, 8, 9] hC
            refine va_calli (va_runV (As := []) (rest := []) ⟨hx, hb, hml, hown, hts⟩ (c_X9_parseLine l dC dI k H.size adK adV ln by9 qT vz67 tz66 az65 qB vz63 bz60 cz61 wz64 az59 ez62 htz66 hbz60 hcz61 hwz64 hez62) (cwV 0 hts (gk_V (wl_mem 13 rfl) (wl_mem 14 rfl) (wl_mem 15 rfl) (wl_mem 11 rfl) (fun w h => List.mem_cons_of_mem _ (List.mem_append_right _ (List.mem_append_right _ (List.mem_append_right _ (List.mem_append_right _ (List.mem_append_left _ h)))))) wkg_c_X9_parseLine) rfl rfl rfl (by decide +kernel) ⟨Nat.le_of_ble_eq_true rfl, Nat.le_of_ble_eq_true rfl⟩) ⟨fun a U g mk q => by obtain ⟨q0, q1, qP, qK, qD, qZ⟩ := q; exact ⟨q0, q1, qP, va_K.moved (u := U) (U := U.calling g mk a) (Vm.Alike.refl U.vm) qK, qD, qZ.calling⟩, va_recv hK hPc (ci := 9) (q0 := 0) rfl rfl, fun U hU hW => ⟨rfl, by rw [hU], by rw [hU]; exact hPc, va_K.moved hW.alike hK, hDc.weaken (fun _ _ _ _ => trivial), hZ.pass hS hU hW hFc⟩⟩ rfl rfl hl.1 rfl (lv_room (Nat.le_of_ble_eq_true rfl)) dX9_parse_50 ⟨Nat.le_of_ble_eq_true rfl, Nat.le_of_ble_eq_true rfl⟩) hS (fun q _ h => hFc q h) hFc (fun rz92 u t H1 locs ht hvm gz91 hB hz1 hk1 hS => ?_)
            obtain ⟨vz93, tz94, az95, vz96, bz97, cz98, wz99, az100, ez101, htz94, hbz97, hcz98, hwz99, hez101, hP1⟩ := hB
            rw [ht] at hP1
            obtain ⟨hP, hD⟩ := w_callR hP hD hk1 hP1 [0, 1] rfl rfl (fun _ h => absurd h List.not_mem_nil) rfl [some 0, some 1] rfl rfl
            clear hPc hC hDc hFc hk1 hP1
            generalize H1 = H at hP hS ⊢
            have hP : va_P (dC, dI) vwCl (List.flatten [(wTape qT k (qB 0) vz93 tz94 az95), (wValley qB k vz96 bz97 cz98 wz99 az100 ez101)] ++ List.flatten ([] : List va_W)) H := hP
            have hD : va_D A (List.flatten [(wTape qT k (qB 0) vz93 tz94 az95), (wValley qB k vz96 bz97 cz98 wz99 az100 ez101)] ++ List.flatten ([] : List va_W)) := hD
            refine W.widen (k := 0) (n := 0) (Nat.le_refl 0) (Nat.le_refl 0) ?_
            have pz102 := gz91
            have pz102 : rz92.toInt = 0 ∨ rz92.toInt = 1 := pz102
            have ct69_kz108 : ∀ (H : Heap) (locs : List Loc) (ls : Array Slot) (vz107 : Nat → Int32), va_P (dC, dI) vwCl (List.flatten [(wTape qT k (qB 0) vz93 tz94 az95), (wValley qB k vz107 bz97 cz98 wz99 az100 ez101)] ++ List.flatten ([] : List va_W)) H → va_D A (List.flatten [(wTape qT k (qB 0) vz93 tz94 az95), (wValley qB k vz107 bz97 cz98 wz99 az100 ez101)] ++ List.flatten ([] : List va_W)) → va_S A s.heap H locs → lv_has ls 2 [(0, .ref (qT 0)), (1, .int xz68)] → W p l e (headSpec wk_c_X9_parse ({ frames := 8, cells := 0, slots := 0, locals := 169 })).room s m ([.ref (qT 0)] : List Value).toArray below meth c H locs 0 0 Q (F0 m 69 ls []) := by
              intro H locs ls vz107  hP hD hS hl
              obtain ⟨xz109, exz109⟩ : ∃ y : Int32, y = xz68 + Int32.ofInt (1) := ⟨_, rfl⟩
              have fxz109 : xz109.toInt = xz68.toInt + (1) := by rw [exz109]; exact fb_addI (y := Int32.ofInt (1)) (by show -2147483648 ≤ xz68.toInt + (1); omega) (by show xz68.toInt + (1) < 2147483648; omega)
              refine lv_iinc (v := xz109) (lv' := [(1, .int xz109), (0, .ref (qT 0))]) hx hb dX9_parse_69 hl (k := 1) rfl exz109.symm (by decide) rfl (fun ls hl => ?_)
              refine lv_goto (tgt := 28) hx hb dX9_parse_72 (by decide) ?_
              exact ih28 H locs ls az100 bz97 cz98 ez101 vz107 wz99 az95 tz94 vz93 xz109 (by show (2147483647 - xz109.toInt).toNat < n9_28; omega) hbz97 hcz98 hez101 hwz99 htz94 (by show 0 ≤ xz109.toInt; omega) hP hD hS (lv_sub hl [1, 0] rfl)
            refine lv_if_eq (tgt := 69) hx hb dX9_parse_53 (by decide) (fun cz110 => ?_) (fun cz110 => ?_)
            · skip
              have zz111 : rz92.toInt = (0 : Int) := zi_eq.mp cz110
              exact ct69_kz108 H locs ls vz96   hP hD hS (lv_sub hl [0, 1] rfl)
            · skip
              have zz112 : ¬ rz92.toInt = (0 : Int) := fun h9 => cz110 (zi_eq.mpr h9)
              refine lv_aload_n hx hb dX9_parse_56 rfl (lv_at hl 0 rfl) ?_
              refine va_get (D := (dC, dI)) (ci := 9) (v := .ref (qB 0)) (C := RX9) (T := TX9) (N := 10) hx hb hts (fun w h => List.mem_cons_of_mem _ (List.mem_append_right _ (List.mem_append_left _ h))) hown hK hP 0 rfl rfl 1 (by decide) (hts (.fieldLink RX9 18 "SagMemory$Tape" "read" "LSagMemory$Valley;") (wl_mem 0 rfl)) (fun _ h9 => h9) rfl dX9_parse_57 ?_
              refine lv_dup hx hb dX9_parse_60 rfl ?_
              refine va_get (D := (dC, dI)) (ci := 10) (v := .int (vz96 0)) (C := RX10) (T := TX10) (N := 16) hx hb hts (fun w h => List.mem_cons_of_mem _ (List.mem_append_right _ (List.mem_append_right _ (List.mem_append_right _ (List.mem_append_right _ (List.mem_append_right _ (List.mem_append_left _ h))))))) hown hK hP 2 rfl rfl 7 (by decide) (hts (.fieldLink RX9 48 "SagMemory$Valley" "lines" "I") (wl_mem 16 rfl)) (fun _ h9 => h9) rfl dX9_parse_61 ?_
              refine lv_iconst (v := 1) hx hb dX9_parse_64 (by decide) ?_
              refine lv_iadd hx hb dX9_parse_65 ?_
              refine lv_topi (fun xz113 exz113 => ?_)
              refine va_put (D := (dC, dI)) (ci := 10) (v := .int xz113) (ty := .int) (C := RX10) (T := TX10) (N := 16) hx hb hts (fun w h => List.mem_cons_of_mem _ (List.mem_append_right _ (List.mem_append_right _ (List.mem_append_right _ (List.mem_append_right _ (List.mem_append_right _ (List.mem_append_left _ h))))))) tyX10 tyX10_ok nmX10 hown hK hP hD hS 2 rfl rfl 7 (by decide) (hts (.fieldLink RX9 48 "SagMemory$Valley" "lines" "I") (wl_mem 16 rfl)) (fun _ h9 => h9) rfl (by decide +kernel) rfl rfl (Nat.le_of_ble_eq_true rfl) dX9_parse_66 (fun H locs hP hD hS => ?_)
              have hP : va_P (dC, dI) vwCl (List.flatten [(wTape qT k (qB 0) vz93 tz94 az95), (wValley qB k (va_up vz96 0 xz113) bz97 cz98 wz99 az100 ez101)] ++ List.flatten ([] : List va_W)) H := hP
              have hD : va_D A (List.flatten [(wTape qT k (qB 0) vz93 tz94 az95), (wValley qB k (va_up vz96 0 xz113) bz97 cz98 wz99 az100 ez101)] ++ List.flatten ([] : List va_W)) := hD
              exact ct69_kz108 H locs ls (va_up vz96 0 xz113)   hP hD hS (lv_sub hl [0, 1] rfl)
  exact lp28_kz69 _ H locs ls az7 bz4 cz5 ez8 vz3 wz6 az13 tz12 vz11 (0 : Int32) (Nat.lt_succ_self _) hbz4 hcz5 hez8 hwz6 htz12 (by show 0 ≤ (0 : Int); omega) hP hD hS (lv_sub hl [1, 0] rfl)
