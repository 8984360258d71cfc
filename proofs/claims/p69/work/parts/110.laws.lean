def zLn : List Nat := [6, 3, 5, 4, 6, 5, 4, 4, 2, 4, 4, 2, 4, 2]
def zBy : List (List Int32) := [[118, 97, 108, 108, 101, 121], [108, 97, 119], [102, 114, 111, 115, 116], [111, 100, 100, 115], [98, 114, 105, 100, 103, 101], [104, 111, 108, 100, 115], [116, 111, 108, 108], [99, 97, 114, 116], [98, 121], [119, 97, 114, 100], [111, 118, 101, 114], [116, 111], [104, 97, 108, 116], [97, 116]]
set_option maxRecDepth 100000 in
theorem zm_ex : ∀ i : Nat, i < 14 → Cond.exactly (Term.string "SagMemory$Tape" (zIx i)) "java/lang/String" ∈ (flatC (Jvm.Cond.and given_1 narrow_1)) := by decide +kernel
set_option maxRecDepth 100000 in
theorem zm_co : ∀ i : Nat, i < 14 → Cond.eq (Term.field (Term.string "SagMemory$Tape" (zIx i)) "java/lang/String" "coder" "B") (Term.int 0) ∈ (flatC (Jvm.Cond.and given_1 narrow_1)) := by decide +kernel
set_option maxRecDepth 100000 in
theorem zm_ar : ∀ i : Nat, i < 14 → Cond.arrayOf (Term.field (Term.string "SagMemory$Tape" (zIx i)) "java/lang/String" "value" "[B") .byte ∈ (flatC (Jvm.Cond.and given_1 narrow_1)) := by decide +kernel
set_option maxRecDepth 100000 in
theorem zm_le : ∀ i : Nat, i < 14 → Cond.eq (Term.length (Term.field (Term.string "SagMemory$Tape" (zIx i)) "java/lang/String" "value" "[B")) (Term.int (Int32.ofNat (zLn.getD i 0))) ∈ (flatC (Jvm.Cond.and given_1 narrow_1)) := by decide +kernel
set_option maxRecDepth 100000 in
theorem zm_el : ∀ i : Nat, i < 14 → ∀ j : Nat, j < zLn.getD i 0 → Cond.eq (Term.elem (Term.field (Term.string "SagMemory$Tape" (zIx i)) "java/lang/String" "value" "[B") (Term.int (Int32.ofNat j))) (Term.int ((zBy.getD i []).getD j 0)) ∈ (flatC (Jvm.Cond.and given_1 narrow_1)) := by decide +kernel
set_option maxRecDepth 100000 in
theorem zm_ne : ∀ i : Nat, i < 14 → ∀ j : Nat, j < 14 → i ≠ j → (Cond.not (Cond.eq (Term.string "SagMemory$Tape" (zIx i)) (Term.string "SagMemory$Tape" (zIx j))) ∈ (flatC (Jvm.Cond.and given_1 narrow_1)) ∨ Cond.not (Cond.eq (Term.string "SagMemory$Tape" (zIx j)) (Term.string "SagMemory$Tape" (zIx i))) ∈ (flatC (Jvm.Cond.and given_1 narrow_1))) := by decide +kernel
set_option maxRecDepth 100000 in
theorem zm_cs : Cond.eq (Term.static "java/lang/String" "COMPACT_STRINGS" "Z") (Term.int 1) ∈ (flatC (Jvm.Cond.and given_1 narrow_1)) := by decide +kernel
set_option maxRecDepth 100000 in
theorem zm_sf : Cond.isRef (Term.static "jdk/internal/util/Preconditions" "SIOOBE_FORMATTER" "Ljava/util/function/BiFunction;") ∈ (flatC (Jvm.Cond.and given_1 narrow_1)) := by decide +kernel
theorem zm_sr {args : Array Value} {s : State} (hts : ∀ w ∈ lw_tbl, w.before args s = true) : ∀ i : Nat, i < 14 → (Cond.stringRef "SagMemory$Tape" (zIx i) (zTx i)).before args s = true := by
  intro i hi
  rcases (show i = 0 ∨ i = 1 ∨ i = 2 ∨ i = 3 ∨ i = 4 ∨ i = 5 ∨ i = 6 ∨ i = 7 ∨ i = 8 ∨ i = 9 ∨ i = 10 ∨ i = 11 ∨ i = 12 ∨ i = 13 by omega) with rfl | rfl | rfl | rfl | rfl | rfl | rfl | rfl | rfl | rfl | rfl | rfl | rfl | rfl
  · exact hts (.stringRef "SagMemory$Tape" 51 "valley") tw_1830
  · exact hts (.stringRef "SagMemory$Tape" 90 "law") tw_1831
  · exact hts (.stringRef "SagMemory$Tape" 81 "frost") tw_1832
  · exact hts (.stringRef "SagMemory$Tape" 103 "odds") tw_1833
  · exact hts (.stringRef "SagMemory$Tape" 63 "bridge") tw_1834
  · exact hts (.stringRef "SagMemory$Tape" 110 "holds") tw_1835
  · exact hts (.stringRef "SagMemory$Tape" 114 "toll") tw_1836
  · exact hts (.stringRef "SagMemory$Tape" 71 "cart") tw_1837
  · exact hts (.stringRef "SagMemory$Tape" 125 "by") tw_1838
  · exact hts (.stringRef "SagMemory$Tape" 76 "ward") tw_1839
  · exact hts (.stringRef "SagMemory$Tape" 136 "over") tw_1840
  · exact hts (.stringRef "SagMemory$Tape" 141 "to") tw_1841
  · exact hts (.stringRef "SagMemory$Tape" 143 "halt") tw_1842
  · exact hts (.stringRef "SagMemory$Tape" 157 "at") tw_1843
theorem zt_of {args : Array Value} {s : State} {A : Nat → Prop} (hts : ∀ w ∈ lw_tbl, w.before args s = true) (hgv : (Jvm.Cond.and given_1 narrow_1).before args s = true) (hA : ∀ a : Nat, a < s.heap.size → ¬ A a) : ∃ (adK adV ln : Nat → Nat) (by9 : Nat → Nat → Int32), Zt adK adV ln by9 A s s.heap := by
  have hs := flat_of_before _ hgv
  obtain ⟨adK, adV, h1, h2⟩ := vk_Sof (N := 14) (tm := fun i => (Term.string "SagMemory$Tape" (zIx i))) (len := zLn) (byt := zBy) (A := A) (args := args) (s := s) (by decide) (fun i hi => hs _ (zm_ex i hi)) (fun i hi => hs _ (zm_co i hi)) (fun i hi => hs _ (zm_ar i hi)) (fun i hi => hs _ (zm_le i hi)) (fun i hi j hj => hs _ (zm_el i hi j hj))
    (fun i j hi hj hij => (zm_ne i hi j hj hij).elim (fun h => Or.inl (hs _ h)) (fun h => Or.inr (hs _ h))) hA
  refine ⟨adK, adV, fun i => zLn.getD i 0, fun i j => (zBy.getD i []).getD j 0, fun i hi => ⟨(h1.1 i hi).1, (h1.1 i hi).2.1, (h1.1 i hi).2.2.1, (h1.1 i hi).2.2.2, ?_⟩, ?_, ?_, fun i hi => vk_R.of (zm_sr hts i hi) (h2 i hi)⟩
  · exact (by decide : ∀ i : Nat, i < 14 → zLn.getD i 0 < 100) i hi
  · exact va_Zof (hts (.laysStatic "java/lang/String" "COMPACT_STRINGS" "Z") tw_1844) (hts (.initialized "java/lang/String") tw_1845) (va_eqi (hs _ zm_cs)) hA
  · exact va_Zqof (hts (.laysStatic "jdk/internal/util/Preconditions" "SIOOBE_FORMATTER" "Ljava/util/function/BiFunction;") tw_1846) (hts (.initialized "jdk/internal/util/Preconditions") tw_1847) (hs _ zm_sf) hA
theorem ak_of {args : Array Value} {s : State} {ty : FieldType} (h : (Cond.arrayClass ty).before args s = true) : ∃ cA : ClassId, ArrOfT s cA ty ∧ s.vm.findClass ("[" ++ ty.toString) = some cA := by
  obtain ⟨cA, kA, comp, h1, h2, h3⟩ := Cond.arrayClass_spec h
  exact ⟨cA, fun n z => ⟨fun k h => (by cases h), kA, h2, comp, h3⟩, h1⟩
theorem ao_of {s : State} {C : String} (h : va_AO C s) : ∃ cA : ClassId, ArrOfT s cA (.object C) ∧ va_RA s cA (.object C) := by
  obtain ⟨comp, c, k, h1, h2, h3, h4, h5⟩ := Cond.arrayOver_spec h
  exact ⟨c, fun n z => ⟨fun k h => (by cases h), k, h3, comp, h4⟩, k, comp, h3, h4, h1, h5⟩
theorem tk_of {args : Array Value} {s : State} {dC : Nat → ClassId} {dI : Nat → Nat → Nat} (hts : ∀ w ∈ lw_tbl, w.before args s = true) (hN : Nx s) (h0 : va_K (dC, dI) vwCl [] s) : ∃ k : Nat → ClassId, va_K (dC, dI) vwCl (tK k) s := by
  obtain ⟨k0, a0, f0⟩ := ak_of (hts (.arrayClass .int) tw_1307)
  obtain ⟨k1, a1, f1⟩ := ak_of (hts (.arrayClass .long) tw_1322)
  obtain ⟨k2, a2, f2⟩ := ak_of (hts (.arrayClass .byte) tw_1378)
  obtain ⟨k3, a3, f3⟩ := ak_of (hts (.arrayClass .boolean) tw_1377)
  obtain ⟨k4, a4, f4⟩ := ao_of (Nx_ao_RX2 hN)
  obtain ⟨k5, a5, f5⟩ := ao_of (Nx_ao_RX7 hN)
  obtain ⟨k6, a6, f6⟩ := ao_of (Nx_ao_RX6 hN)
  obtain ⟨k7, a7, f7⟩ := ao_of (Nx_ao_RX1 hN)
  refine ⟨(fun i => (cond (Nat.ble 4 i) (cond (Nat.ble 6 i) (cond (Nat.ble 7 i) k7 k6) (cond (Nat.ble 5 i) k5 k4)) (cond (Nat.ble 2 i) (cond (Nat.ble 3 i) k3 k2) (cond (Nat.ble 1 i) k1 k0)))), h0.1, fun k q hq => ?_⟩
  match k, hq with
  | 0, hq => cases hq; exact ⟨a0, f0⟩
  | 1, hq => cases hq; exact ⟨a1, f1⟩
  | 2, hq => cases hq; exact ⟨a2, f2⟩
  | 3, hq => cases hq; exact ⟨a3, f3⟩
  | 4, hq => cases hq; exact ⟨a4, f4⟩
  | 5, hq => cases hq; exact ⟨a5, f5⟩
  | 6, hq => cases hq; exact ⟨a6, f6⟩
  | 7, hq => cases hq; exact ⟨a7, f7⟩
  | k + 8, hq => simp [tK] at hq
theorem fl_nilP {D : va_G} {cl : List vw_C} {H : Heap} {Ks : List va_W} (h : va_P D cl Ks.flatten H) : va_P D cl (Ks.flatten ++ List.flatten ([] : List va_W)) H := by
  rw [List.flatten_nil, List.append_nil]; exact h
theorem fl_nilD {A : Nat → Prop} {Ks : List va_W} (h : va_D A Ks.flatten) : va_D A (Ks.flatten ++ List.flatten ([] : List va_W)) := by
  rw [List.flatten_nil, List.append_nil]; exact h
def zF : Nat → Nat → Int32 := (fun i => (cond (Nat.ble 23 i) (cond (Nat.ble 35 i) (cond (Nat.ble 41 i) (cond (Nat.ble 44 i) (cond (Nat.ble 45 i) (cond (Nat.ble 46 i) (fun _ => 0) (fun _ => 0)) (va_up (fun _ => 0) 7 (-1 : Int32))) (cond (Nat.ble 42 i) (cond (Nat.ble 43 i) (fun _ => 0) (fun _ => 0)) (fun _ => 0))) (cond (Nat.ble 38 i) (cond (Nat.ble 39 i) (cond (Nat.ble 40 i) (fun _ => 0) (fun _ => 0)) (fun _ => 0)) (cond (Nat.ble 36 i) (cond (Nat.ble 37 i) (fun _ => 0) (fun _ => 0)) (fun _ => 0)))) (cond (Nat.ble 29 i) (cond (Nat.ble 32 i) (cond (Nat.ble 33 i) (cond (Nat.ble 34 i) (fun _ => 0) (fun _ => 0)) (fun _ => 0)) (cond (Nat.ble 30 i) (cond (Nat.ble 31 i) (fun _ => 0) (fun _ => 0)) (fun _ => 0))) (cond (Nat.ble 26 i) (cond (Nat.ble 27 i) (cond (Nat.ble 28 i) (fun _ => 0) (fun _ => 0)) (fun _ => 0)) (cond (Nat.ble 24 i) (cond (Nat.ble 25 i) (fun _ => 0) (fun _ => 0)) (fun _ => 0))))) (cond (Nat.ble 11 i) (cond (Nat.ble 17 i) (cond (Nat.ble 20 i) (cond (Nat.ble 21 i) (cond (Nat.ble 22 i) (fun _ => 0) (fun _ => 0)) (fun _ => 0)) (cond (Nat.ble 18 i) (cond (Nat.ble 19 i) (fun _ => 0) (fun _ => 0)) (fun _ => 0))) (cond (Nat.ble 14 i) (cond (Nat.ble 15 i) (cond (Nat.ble 16 i) (fun _ => 0) (fun _ => 0)) (fun _ => 0)) (cond (Nat.ble 12 i) (cond (Nat.ble 13 i) (fun _ => 0) (fun _ => 0)) (fun _ => 0)))) (cond (Nat.ble 5 i) (cond (Nat.ble 8 i) (cond (Nat.ble 9 i) (cond (Nat.ble 10 i) (fun _ => 0) (fun _ => 0)) (fun _ => 0)) (cond (Nat.ble 6 i) (cond (Nat.ble 7 i) (fun _ => 0) (fun _ => 0)) (fun _ => 0))) (cond (Nat.ble 2 i) (cond (Nat.ble 3 i) (cond (Nat.ble 4 i) (fun _ => 0) (fun _ => 0)) (fun _ => 0)) (cond (Nat.ble 1 i) (fun _ => 0) (va_up (fun _ => 0) 1 (-1 : Int32))))))))
def zG : Nat → Nat → Nat → Int32 := (fun i => (cond (Nat.ble 29 i) (cond (Nat.ble 44 i) (cond (Nat.ble 51 i) (cond (Nat.ble 55 i) (cond (Nat.ble 57 i) (cond (Nat.ble 58 i) (fun _ _ => 0) (fun _ _ => 0)) (cond (Nat.ble 56 i) (fun _ _ => 0) (fun _ _ => 0))) (cond (Nat.ble 53 i) (cond (Nat.ble 54 i) (fun _ _ => 0) (fun _ _ => 0)) (cond (Nat.ble 52 i) (fun _ _ => 0) (fun _ _ => 0)))) (cond (Nat.ble 47 i) (cond (Nat.ble 49 i) (cond (Nat.ble 50 i) (fun _ _ => 0) (fun _ _ => 0)) (cond (Nat.ble 48 i) (fun _ _ => 0) (fun _ _ => 0))) (cond (Nat.ble 45 i) (cond (Nat.ble 46 i) (fun _ _ => 0) (fun _ _ => 0)) (fun _ _ => 0)))) (cond (Nat.ble 36 i) (cond (Nat.ble 40 i) (cond (Nat.ble 42 i) (cond (Nat.ble 43 i) (fun _ _ => 0) (fun _ _ => 0)) (cond (Nat.ble 41 i) (fun _ _ => 0) (fun _ _ => 0))) (cond (Nat.ble 38 i) (cond (Nat.ble 39 i) (fun _ _ => 0) (fun _ _ => 0)) (cond (Nat.ble 37 i) (fun _ _ => 0) (fun _ _ => 0)))) (cond (Nat.ble 32 i) (cond (Nat.ble 34 i) (cond (Nat.ble 35 i) (fun _ _ => 0) (fun _ _ => 0)) (cond (Nat.ble 33 i) (fun _ _ => 0) (fun _ _ => 0))) (cond (Nat.ble 30 i) (cond (Nat.ble 31 i) (fun _ _ => 0) (fun _ _ => 0)) (fun _ _ => 0))))) (cond (Nat.ble 14 i) (cond (Nat.ble 21 i) (cond (Nat.ble 25 i) (cond (Nat.ble 27 i) (cond (Nat.ble 28 i) (va_up (fun _ _ => 0) 0 (upd (upd (upd (upd (fun _ => 0) (0 : Int32).toNatClampNeg (-1 : Int32)) (1 : Int32).toNatClampNeg (-1 : Int32)) (2 : Int32).toNatClampNeg (-1 : Int32)) (3 : Int32).toNatClampNeg (-1 : Int32))) (fun _ _ => 0)) (cond (Nat.ble 26 i) (fun _ _ => 0) (fun _ _ => 0))) (cond (Nat.ble 23 i) (cond (Nat.ble 24 i) (fun _ _ => 0) (fun _ _ => 0)) (cond (Nat.ble 22 i) (fun _ _ => 0) (fun _ _ => 0)))) (cond (Nat.ble 17 i) (cond (Nat.ble 19 i) (cond (Nat.ble 20 i) (fun _ _ => 0) (fun _ _ => 0)) (cond (Nat.ble 18 i) (fun _ _ => 0) (fun _ _ => 0))) (cond (Nat.ble 15 i) (cond (Nat.ble 16 i) (fun _ _ => 0) (fun _ _ => 0)) (fun _ _ => 0)))) (cond (Nat.ble 7 i) (cond (Nat.ble 10 i) (cond (Nat.ble 12 i) (cond (Nat.ble 13 i) (fun _ _ => 0) (fun _ _ => 0)) (cond (Nat.ble 11 i) (fun _ _ => 0) (fun _ _ => 0))) (cond (Nat.ble 8 i) (cond (Nat.ble 9 i) (fun _ _ => 0) (fun _ _ => 0)) (fun _ _ => 0))) (cond (Nat.ble 3 i) (cond (Nat.ble 5 i) (cond (Nat.ble 6 i) (fun _ _ => 0) (fun _ _ => 0)) (cond (Nat.ble 4 i) (fun _ _ => 0) (fun _ => (fun _ => 0)))) (cond (Nat.ble 1 i) (cond (Nat.ble 2 i) (fun _ => (va_up (va_up (fun _ => 0) 2 (-1 : Int32)) 3 (-1 : Int32))) (fun _ => (fun _ => 0))) (fun _ => (va_up (va_up (fun _ => 0) 2 (-1 : Int32)) 3 (-1 : Int32)))))))))
def zGG : Nat → Nat → Nat → Nat → Int32 := (fun i => (cond (Nat.ble 1 i) (fun _ => (fun _ _ => 0)) (fun _ => (fun _ _ => 0))))
def zJ : Nat → Nat → Nat → Int64 := (fun i => (cond (Nat.ble 3 i) (cond (Nat.ble 4 i) (cond (Nat.ble 5 i) (fun _ _ => 0) (fun _ _ => 0)) (fun _ _ => 0)) (cond (Nat.ble 1 i) (cond (Nat.ble 2 i) (fun _ _ => 0) (fun _ _ => 0)) (fun _ _ => 0))))
def zD : Nat → Nat → Int64 := (fun i => (fun _ => 0))
theorem zF_ok : ∀ i, PF i (zF i) := by
  intro i
  unfold PF zF
  cases Nat.ble 23 i
  · skip
    cases Nat.ble 11 i
    · skip
      cases Nat.ble 5 i
      · skip
        cases Nat.ble 2 i
        · skip
          cases Nat.ble 1 i
          · skip
            exact trivial
          · skip
            exact (fun _ => ⟨(show (0 : Int) ≤ (0 : Int32).toInt from by decide), (show (0 : Int32).toInt ≤ (700 : Int) from by decide)⟩)
        · skip
          cases Nat.ble 3 i
          · skip
            exact trivial
          · skip
            cases Nat.ble 4 i
            · skip
              exact (fun _ => ⟨(show (0 : Int) ≤ (0 : Int32).toInt from by decide), (show (0 : Int32).toInt ≤ (3 : Int) from by decide)⟩)
            · skip
              exact (fun _ => ⟨(show (0 : Int) ≤ (0 : Int32).toInt from by decide), (show (0 : Int32).toInt ≤ (7 : Int) from by decide)⟩)
      · skip
        cases Nat.ble 8 i
        · skip
          cases Nat.ble 6 i
          · skip
            exact (fun _ => ⟨(show (0 : Int) ≤ (0 : Int32).toInt from by decide), (show (0 : Int32).toInt ≤ (5 : Int) from by decide)⟩)
          · skip
            cases Nat.ble 7 i
            · skip
              exact trivial
            · skip
              exact (fun _ => ⟨(show (0 : Int) ≤ (0 : Int32).toInt from by decide), (show (0 : Int32).toInt ≤ (3 : Int) from by decide)⟩)
        · skip
          cases Nat.ble 9 i
          · skip
            exact (fun _ => ⟨(show (0 : Int) ≤ (0 : Int32).toInt from by decide), (show (0 : Int32).toInt ≤ (7 : Int) from by decide)⟩)
          · skip
            cases Nat.ble 10 i
            · skip
              exact (fun _ => ⟨(show (0 : Int) ≤ (0 : Int32).toInt from by decide), (show (0 : Int32).toInt ≤ (5 : Int) from by decide)⟩)
            · skip
              exact (fun _ => ⟨(show (0 : Int) ≤ (0 : Int32).toInt from by decide), (show (0 : Int32).toInt ≤ (30 : Int) from by decide)⟩)
    · skip
      cases Nat.ble 17 i
      · skip
        cases Nat.ble 14 i
        · skip
          cases Nat.ble 12 i
          · skip
            exact trivial
          · skip
            cases Nat.ble 13 i
            · skip
              exact trivial
            · skip
              exact trivial
        · skip
          cases Nat.ble 15 i
          · skip
            exact trivial
          · skip
            cases Nat.ble 16 i
            · skip
              exact trivial
            · skip
              exact (fun _ => ⟨(show (0 : Int) ≤ (0 : Int32).toInt from by decide), (show (0 : Int32).toInt ≤ (7 : Int) from by decide)⟩)
      · skip
        cases Nat.ble 20 i
        · skip
          cases Nat.ble 18 i
          · skip
            exact (fun _ => ⟨(show (0 : Int) ≤ (0 : Int32).toInt from by decide), (show (0 : Int32).toInt ≤ (8 : Int) from by decide)⟩)
          · skip
            cases Nat.ble 19 i
            · skip
              exact trivial
            · skip
              exact (fun _ => ⟨(show (0 : Int) ≤ (0 : Int32).toInt from by decide), (show (0 : Int32).toInt ≤ (60 : Int) from by decide)⟩)
        · skip
          cases Nat.ble 21 i
          · skip
            exact trivial
          · skip
            cases Nat.ble 22 i
            · skip
              exact (fun _ => ⟨(show (0 : Int) ≤ (0 : Int32).toInt from by decide), (show (0 : Int32).toInt ≤ (60 : Int) from by decide)⟩)
            · skip
              exact trivial
  · skip
    cases Nat.ble 35 i
    · skip
      cases Nat.ble 29 i
      · skip
        cases Nat.ble 26 i
        · skip
          cases Nat.ble 24 i
          · skip
            exact (fun _ => ⟨(show (0 : Int) ≤ (0 : Int32).toInt from by decide), (show (0 : Int32).toInt ≤ (60 : Int) from by decide)⟩)
          · skip
            cases Nat.ble 25 i
            · skip
              exact trivial
            · skip
              exact (fun _ => ⟨(show (0 : Int) ≤ (0 : Int32).toInt from by decide), (show (0 : Int32).toInt ≤ (60 : Int) from by decide)⟩)
        · skip
          cases Nat.ble 27 i
          · skip
            exact trivial
          · skip
            cases Nat.ble 28 i
            · skip
              exact trivial
            · skip
              exact (fun _ => ⟨(show (0 : Int) ≤ (0 : Int32).toInt from by decide), (show (0 : Int32).toInt ≤ (3 : Int) from by decide)⟩)
      · skip
        cases Nat.ble 32 i
        · skip
          cases Nat.ble 30 i
          · skip
            exact (fun _ => ⟨(show (0 : Int) ≤ (0 : Int32).toInt from by decide), (show (0 : Int32).toInt ≤ (7 : Int) from by decide)⟩)
          · skip
            cases Nat.ble 31 i
            · skip
              exact (fun _ => ⟨(show (0 : Int) ≤ (0 : Int32).toInt from by decide), (show (0 : Int32).toInt ≤ (5 : Int) from by decide)⟩)
            · skip
              exact (fun _ => ⟨(show (0 : Int) ≤ (0 : Int32).toInt from by decide), (show (0 : Int32).toInt ≤ (30 : Int) from by decide)⟩)
        · skip
          cases Nat.ble 33 i
          · skip
            exact trivial
          · skip
            cases Nat.ble 34 i
            · skip
              exact trivial
            · skip
              exact (fun _ => ⟨(show (0 : Int) ≤ (0 : Int32).toInt from by decide), (show (0 : Int32).toInt ≤ (3 : Int) from by decide)⟩)
    · skip
      cases Nat.ble 41 i
      · skip
        cases Nat.ble 38 i
        · skip
          cases Nat.ble 36 i
          · skip
            exact (fun _ => ⟨(show (0 : Int) ≤ (0 : Int32).toInt from by decide), (show (0 : Int32).toInt ≤ (7 : Int) from by decide)⟩)
          · skip
            cases Nat.ble 37 i
            · skip
              exact (fun _ => ⟨(show (0 : Int) ≤ (0 : Int32).toInt from by decide), (show (0 : Int32).toInt ≤ (5 : Int) from by decide)⟩)
            · skip
              exact (fun _ => ⟨(show (0 : Int) ≤ (0 : Int32).toInt from by decide), (show (0 : Int32).toInt ≤ (30 : Int) from by decide)⟩)
        · skip
          cases Nat.ble 39 i
          · skip
            exact trivial
          · skip
            cases Nat.ble 40 i
            · skip
              exact trivial
            · skip
              exact (fun _ => ⟨(show (0 : Int) ≤ (0 : Int32).toInt from by decide), (show (0 : Int32).toInt ≤ (3 : Int) from by decide)⟩)
      · skip
        cases Nat.ble 44 i
        · skip
          cases Nat.ble 42 i
          · skip
            exact (fun _ => ⟨(show (0 : Int) ≤ (0 : Int32).toInt from by decide), (show (0 : Int32).toInt ≤ (7 : Int) from by decide)⟩)
          · skip
            cases Nat.ble 43 i
            · skip
              exact (fun _ => ⟨(show (0 : Int) ≤ (0 : Int32).toInt from by decide), (show (0 : Int32).toInt ≤ (5 : Int) from by decide)⟩)
            · skip
              exact (fun _ => ⟨(show (0 : Int) ≤ (0 : Int32).toInt from by decide), (show (0 : Int32).toInt ≤ (30 : Int) from by decide)⟩)
        · skip
          cases Nat.ble 45 i
          · skip
            exact trivial
          · skip
            cases Nat.ble 46 i
            · skip
              exact (fun _ => ⟨(show (0 : Int) ≤ (0 : Int32).toInt from by decide), (show (0 : Int32).toInt ≤ (700 : Int) from by decide)⟩)
            · skip
              exact (fun _ => ⟨(show (-1 : Int) ≤ (0 : Int32).toInt from by decide), (show (0 : Int32).toInt ≤ (127 : Int) from by decide)⟩)
theorem zG_ok : ∀ i, PG i (zG i) := by
  intro i
  unfold PG zG
  cases Nat.ble 29 i
  · skip
    cases Nat.ble 14 i
    · skip
      cases Nat.ble 7 i
      · skip
        cases Nat.ble 3 i
        · skip
          cases Nat.ble 1 i
          · skip
            exact trivial
          · skip
            cases Nat.ble 2 i
            · skip
              exact (fun _ => fun _ => ⟨(show (0 : Int) ≤ (0 : Int32).toInt from by decide), (show (0 : Int32).toInt ≤ (8 : Int) from by decide)⟩)
            · skip
              exact trivial
        · skip
          cases Nat.ble 5 i
          · skip
            cases Nat.ble 4 i
            · skip
              exact (fun _ => fun _ => ⟨(show (0 : Int) ≤ (0 : Int32).toInt from by decide), (show (0 : Int32).toInt ≤ (8 : Int) from by decide)⟩)
            · skip
              exact trivial
          · skip
            cases Nat.ble 6 i
            · skip
              exact trivial
            · skip
              exact trivial
      · skip
        cases Nat.ble 10 i
        · skip
          cases Nat.ble 8 i
          · skip
            exact (fun _ => fun _ => ⟨(show (0 : Int) ≤ (0 : Int32).toInt from by decide), (show (0 : Int32).toInt ≤ (99 : Int) from by decide)⟩)
          · skip
            cases Nat.ble 9 i
            · skip
              exact trivial
            · skip
              exact (fun _ => fun _ => ⟨(show (0 : Int) ≤ (0 : Int32).toInt from by decide), (show (0 : Int32).toInt ≤ (99 : Int) from by decide)⟩)
        · skip
          cases Nat.ble 12 i
          · skip
            cases Nat.ble 11 i
            · skip
              exact trivial
            · skip
              exact trivial
          · skip
            cases Nat.ble 13 i
            · skip
              exact (fun _ => fun _ => ⟨(show (0 : Int) ≤ (0 : Int32).toInt from by decide), (show (0 : Int32).toInt ≤ (99 : Int) from by decide)⟩)
            · skip
              exact trivial
    · skip
      cases Nat.ble 21 i
      · skip
        cases Nat.ble 17 i
        · skip
          cases Nat.ble 15 i
          · skip
            exact (fun _ => fun _ => ⟨(show (0 : Int) ≤ (0 : Int32).toInt from by decide), (show (0 : Int32).toInt ≤ (99 : Int) from by decide)⟩)
          · skip
            cases Nat.ble 16 i
            · skip
              exact trivial
            · skip
              exact trivial
        · skip
          cases Nat.ble 19 i
          · skip
            cases Nat.ble 18 i
            · skip
              exact trivial
            · skip
              exact trivial
          · skip
            cases Nat.ble 20 i
            · skip
              exact trivial
            · skip
              exact (fun _ => fun _ => ⟨(show (0 : Int) ≤ (0 : Int32).toInt from by decide), (show (0 : Int32).toInt ≤ (99 : Int) from by decide)⟩)
      · skip
        cases Nat.ble 25 i
        · skip
          cases Nat.ble 23 i
          · skip
            cases Nat.ble 22 i
            · skip
              exact trivial
            · skip
              exact trivial
          · skip
            cases Nat.ble 24 i
            · skip
              exact (fun _ => fun _ => ⟨(show (0 : Int) ≤ (0 : Int32).toInt from by decide), (show (0 : Int32).toInt ≤ (99 : Int) from by decide)⟩)
            · skip
              exact trivial
        · skip
          cases Nat.ble 27 i
          · skip
            cases Nat.ble 26 i
            · skip
              exact trivial
            · skip
              exact (fun _ => fun _ => ⟨(show (0 : Int) ≤ (0 : Int32).toInt from by decide), (show (0 : Int32).toInt ≤ (99 : Int) from by decide)⟩)
          · skip
            cases Nat.ble 28 i
            · skip
              exact trivial
            · skip
              exact trivial
  · skip
    cases Nat.ble 44 i
    · skip
      cases Nat.ble 36 i
      · skip
        cases Nat.ble 32 i
        · skip
          cases Nat.ble 30 i
          · skip
            exact (fun _ => fun _ => ⟨(show (0 : Int) ≤ (0 : Int32).toInt from by decide), (show (0 : Int32).toInt ≤ (60 : Int) from by decide)⟩)
          · skip
            cases Nat.ble 31 i
            · skip
              exact trivial
            · skip
              exact trivial
        · skip
          cases Nat.ble 34 i
          · skip
            cases Nat.ble 33 i
            · skip
              exact (fun _ => ⟨(fun _ _ => ⟨(show (0 : Int) ≤ (0 : Int32).toInt from by decide), (show (0 : Int32).toInt ≤ (3 : Int) from by decide)⟩), (fun _ _ => ⟨(show (0 : Int) ≤ (0 : Int32).toInt from by decide), (show (0 : Int32).toInt ≤ (7 : Int) from by decide)⟩), (fun _ _ => ⟨(show (0 : Int) ≤ (0 : Int32).toInt from by decide), (show (0 : Int32).toInt ≤ (5 : Int) from by decide)⟩), (fun _ _ => ⟨(show (0 : Int) ≤ (0 : Int32).toInt from by decide), (show (0 : Int32).toInt ≤ (4 : Int) from by decide)⟩), (fun _ _ => ⟨(show (0 : Int) ≤ (0 : Int32).toInt from by decide), (show (0 : Int32).toInt ≤ (30 : Int) from by decide)⟩)⟩)
            · skip
              exact trivial
          · skip
            cases Nat.ble 35 i
            · skip
              exact (fun _ => (fun _ _ => ⟨(show (0 : Int) ≤ (0 : Int32).toInt from by decide), (show (0 : Int32).toInt ≤ (2 : Int) from by decide)⟩))
            · skip
              exact (fun _ => (fun _ _ => ⟨(show (-1 : Int) ≤ (0 : Int32).toInt from by decide), (show (0 : Int32).toInt ≤ (2 : Int) from by decide)⟩))
      · skip
        cases Nat.ble 40 i
        · skip
          cases Nat.ble 38 i
          · skip
            cases Nat.ble 37 i
            · skip
              exact trivial
            · skip
              exact (fun _ => ⟨(fun _ _ => ⟨(show (0 : Int) ≤ (0 : Int32).toInt from by decide), (show (0 : Int32).toInt ≤ (6 : Int) from by decide)⟩), (fun _ _ => ⟨(show (-1 : Int) ≤ (0 : Int32).toInt from by decide), (show (0 : Int32).toInt ≤ (2 : Int) from by decide)⟩)⟩)
          · skip
            cases Nat.ble 39 i
            · skip
              exact trivial
            · skip
              exact trivial
        · skip
          cases Nat.ble 42 i
          · skip
            cases Nat.ble 41 i
            · skip
              exact (fun _ => fun _ => ⟨(show (-1 : Int) ≤ (0 : Int32).toInt from by decide), (show (0 : Int32).toInt ≤ (2 : Int) from by decide)⟩)
            · skip
              exact (fun _ => fun _ => ⟨(show (0 : Int) ≤ (0 : Int32).toInt from by decide), (show (0 : Int32).toInt ≤ (6 : Int) from by decide)⟩)
          · skip
            cases Nat.ble 43 i
            · skip
              exact trivial
            · skip
              exact trivial
    · skip
      cases Nat.ble 51 i
      · skip
        cases Nat.ble 47 i
        · skip
          cases Nat.ble 45 i
          · skip
            exact (fun _ _ => ⟨(show (0 : Int) ≤ (0 : Int32).toInt from by decide), (show (0 : Int32).toInt ≤ (8 : Int) from by decide)⟩)
          · skip
            cases Nat.ble 46 i
            · skip
              exact trivial
            · skip
              exact trivial
        · skip
          cases Nat.ble 49 i
          · skip
            cases Nat.ble 48 i
            · skip
              exact (fun _ => fun _ => ⟨(show (-1 : Int) ≤ (0 : Int32).toInt from by decide), (show (0 : Int32).toInt ≤ (2 : Int) from by decide)⟩)
            · skip
              exact trivial
          · skip
            cases Nat.ble 50 i
            · skip
              exact trivial
            · skip
              exact trivial
      · skip
        cases Nat.ble 55 i
        · skip
          cases Nat.ble 53 i
          · skip
            cases Nat.ble 52 i
            · skip
              exact trivial
            · skip
              exact (fun _ => fun _ => ⟨(show (0 : Int) ≤ (0 : Int32).toInt from by decide), (show (0 : Int32).toInt ≤ (7 : Int) from by decide)⟩)
          · skip
            cases Nat.ble 54 i
            · skip
              exact trivial
            · skip
              exact trivial
        · skip
          cases Nat.ble 57 i
          · skip
            cases Nat.ble 56 i
            · skip
              exact trivial
            · skip
              exact trivial
          · skip
            cases Nat.ble 58 i
            · skip
              exact trivial
            · skip
              exact trivial
theorem zGG_ok : ∀ i, PGG i (zGG i) := by
  intro i
  unfold PGG zGG
  cases Nat.ble 1 i
  · skip
    exact trivial
  · skip
    exact trivial
