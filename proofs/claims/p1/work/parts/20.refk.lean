theorem row_loop {p : Program} {l : Launch} {e : Env} {R : Room} {s : State} {m : MethodId} {args : Array Value} {below : List Frame} {meth : Method} {c : Code} {dC : Nat → ClassId} {dI : Nat → Nat → Nat} {A : Nat → Prop} {Q : State → Prop} {cells slots : Nat} (hx : p.tables.exec = Jvm.exec) (hb : c.code = cX12_row) (hown : s.vm.findClass RX12 = some m.cls) (hts : ∀ w ∈ (Cond.fieldLink RX12 16 "SagMemoryModel" "cells" "[J") :: wsX120, w.before args s = true) {h0 m1 m2 m3 m4 m5 m16 m17 m18 m19 m20 m21 m22 m23 m27 m28 m29 m30 m31 m32 m33 m34 m35 m36 m37 m38 m39 m40 m41 m42 m46 m53 m57 m58 : Nat} {k3 : ClassId} (hK : va_K (dC, dI) vwCl [(k3, .long)] s) (p2 : Int32) (j n : Nat) (hj : j < 4) (hn : n ≤ 60)
    (hend : ∀ (H : Heap) (locs : List Loc) (ls : Array Slot), va_S A s.heap H locs → W p l e R s m args below meth c H locs cells slots Q (F0 m 82 ls [])) :
    ∀ (d i : Nat), i + d = n → ∀ (H : Heap) (locs : List Loc) (ls : Array Slot), va_P (dC, dI) vwCl [(h0, .inr (12, [.int 0, .ref m1, .ref m2, .ref m3, .ref m4, .ref m5, .int 0, .int 0, .int 0, .int 0, .int 0, .long 0, .int 0, .int 0, .int 0, .int (-1), .ref m16, .ref m17, .ref m18, .ref m19, .ref m20, .ref m21, .ref m22, .ref m23, .int 0, .int 0, .int 0, .ref m27, .ref m28, .ref m29, .ref m30, .ref m31, .ref m32, .ref m33, .ref m34, .ref m35, .ref m36, .ref m37, .ref m38, .ref m39, .ref m40, .ref m41, .ref m42, .int 0, .int 0, .int 0, .ref m46, .int 0, .int 0, .int 0, .int 0, .int 0, .int 0, .ref m53, .int 0, .int 0, .int 0, .ref m57, .ref m58])), (m3, .inl (k3, 240, .inr (.inl (fun _ => 0))))] H → va_D A [(h0, .inr (12, [.int 0, .ref m1, .ref m2, .ref m3, .ref m4, .ref m5, .int 0, .int 0, .int 0, .int 0, .int 0, .long 0, .int 0, .int 0, .int 0, .int (-1), .ref m16, .ref m17, .ref m18, .ref m19, .ref m20, .ref m21, .ref m22, .ref m23, .int 0, .int 0, .int 0, .ref m27, .ref m28, .ref m29, .ref m30, .ref m31, .ref m32, .ref m33, .ref m34, .ref m35, .ref m36, .ref m37, .ref m38, .ref m39, .ref m40, .ref m41, .ref m42, .int 0, .int 0, .int 0, .ref m46, .int 0, .int 0, .int 0, .int 0, .int 0, .int 0, .ref m53, .int 0, .int 0, .int 0, .ref m57, .ref m58])), (m3, .inl (k3, 240, .inr (.inl (fun _ => 0))))] → va_S A s.heap H locs → lv_has ls 5 [(4, .int (nI i)), (0, .ref h0), (1, .int (nI j)), (2, .int p2), (3, .int (nI n))] → W p l e R s m args below meth c H locs cells slots Q (F0 m 57 ls []) := by
  intro d
  induction d with
  | zero =>
    intro i hi H locs ls hP hD hS hl
    refine lv_iload hx hb dX12_row_57 (lv_at hl 0 rfl) ?_
    refine lv_iload_n hx hb dX12_row_59 rfl (lv_at hl 4 rfl) ?_
    refine lv_icmp_ge (tgt := 82) hx hb dX12_row_60 (by decide) (fun c1 => ?_) (fun c1 => ?_)
    · exact hend H locs ls hS
    · exact absurd (nI_le (by omega) (by omega)) c1
  | succ d ih =>
    intro i hi H locs ls hP hD hS hl
    refine lv_iload hx hb dX12_row_57 (lv_at hl 0 rfl) ?_
    refine lv_iload_n hx hb dX12_row_59 rfl (lv_at hl 4 rfl) ?_
    refine lv_icmp_ge (tgt := 82) hx hb dX12_row_60 (by decide) (fun c1 => ?_) (fun c1 => ?_)
    · exact absurd c1 (nI_ge (by omega) (by omega))
    · refine lv_aload_n hx hb dX12_row_63 rfl (lv_at hl 1 rfl) ?_
      refine va_get (D := (dC, dI)) (ci := 12) (v := .ref m3) (C := RX12) (T := TX12) (N := 59) hx hb hts (fun w h => List.mem_cons_of_mem _ h) hown hK hP 0 rfl rfl 3 (by decide) (hts _ List.mem_cons_self) (fun _ h9 => h9) rfl dX12_row_64 ?_
      refine lv_bipush (v := 60) hx hb dX12_row_67 (by decide) ?_
      refine lv_iload_n hx hb dX12_row_69 rfl (lv_at hl 2 rfl) ?_
      refine lv_imul hx hb dX12_row_70 ?_
      refine lv_iload hx hb dX12_row_71 (lv_at hl 0 rfl) ?_
      refine lv_iadd hx hb dX12_row_73 ?_
      refine lv_topi (fun x ex => ?_)
      obtain rfl : x = nI (60 * j + i) := by rw [ex, ← nI_add, ← pk_mul]; rfl
      refine lv_lconst (v := 0) hx hb dX12_row_74 (by decide) ?_
      refine va_last hx hb hK hP hD hS 1 0 rfl rfl (vp_in_nI (by omega) (by omega)) dX12_row_75 (fun H locs hP hD hS => ?_)
      rw [updL0] at hP hD
      have hP : va_P (dC, dI) vwCl [(h0, .inr (12, [.int 0, .ref m1, .ref m2, .ref m3, .ref m4, .ref m5, .int 0, .int 0, .int 0, .int 0, .int 0, .long 0, .int 0, .int 0, .int 0, .int (-1), .ref m16, .ref m17, .ref m18, .ref m19, .ref m20, .ref m21, .ref m22, .ref m23, .int 0, .int 0, .int 0, .ref m27, .ref m28, .ref m29, .ref m30, .ref m31, .ref m32, .ref m33, .ref m34, .ref m35, .ref m36, .ref m37, .ref m38, .ref m39, .ref m40, .ref m41, .ref m42, .int 0, .int 0, .int 0, .ref m46, .int 0, .int 0, .int 0, .int 0, .int 0, .int 0, .ref m53, .int 0, .int 0, .int 0, .ref m57, .ref m58])), (m3, .inl (k3, 240, .inr (.inl (fun _ => 0))))] H := hP
      have hD : va_D A [(h0, .inr (12, [.int 0, .ref m1, .ref m2, .ref m3, .ref m4, .ref m5, .int 0, .int 0, .int 0, .int 0, .int 0, .long 0, .int 0, .int 0, .int 0, .int (-1), .ref m16, .ref m17, .ref m18, .ref m19, .ref m20, .ref m21, .ref m22, .ref m23, .int 0, .int 0, .int 0, .ref m27, .ref m28, .ref m29, .ref m30, .ref m31, .ref m32, .ref m33, .ref m34, .ref m35, .ref m36, .ref m37, .ref m38, .ref m39, .ref m40, .ref m41, .ref m42, .int 0, .int 0, .int 0, .ref m46, .int 0, .int 0, .int 0, .int 0, .int 0, .int 0, .ref m53, .int 0, .int 0, .int 0, .ref m57, .ref m58])), (m3, .inl (k3, 240, .inr (.inl (fun _ => 0))))] := hD
      refine lv_iinc (v := nI (i + 1)) (lv' := [(4, .int (nI (i + 1))), (0, .ref h0), (1, .int (nI j)), (2, .int p2), (3, .int (nI n))]) hx hb dX12_row_76 hl (k := 0) rfl (by rw [nI_succ]; rfl) (by decide) rfl (fun ls hl => ?_)
      refine lv_goto (tgt := 57) hx hb dX12_row_79 (by decide) ?_
      exact ih (i + 1) (by omega) H locs ls hP hD hS hl
def wk_f_X12_row : List Cond := .code yX12_row cX12_row 5 (some .int) :: ([.fieldLink RX12 116 "SagMemoryModel" "thrown" "I", .methodLink RX12 125 yX12_isSlot, .static yX12_isSlot, .initialized RX12, .constantLong RX12 119 (3), .methodLink RX12 121 yX12_in, .static yX12_in, .fieldLink RX12 7 "SagMemoryModel" "width" "[I", .fieldLink RX12 13 "SagMemoryModel" "many" "[I", .fieldLink RX12 16 "SagMemoryModel" "cells" "[J"] ++ (wsX120 ++ (wk_f_X12_isSlot ++ (wk_f_X12_in ++ []))))
theorem wkg_f_X12_row : wk_f_X12_row.all goodWord = true := by decide +kernel
set_option maxHeartbeats 4000000 in
set_option maxRecDepth 100000 in
theorem f_X12_row (l : Launch) (dC : Nat → ClassId) (dI : Nat → Nat → Nat) (sz : Nat) (h0 : Nat) (m1 : Nat) (m2 : Nat) (m3 : Nat) (m4 : Nat) (m5 : Nat) (m16 : Nat) (m17 : Nat) (m18 : Nat) (m19 : Nat) (m20 : Nat) (m21 : Nat) (m22 : Nat) (m23 : Nat) (m27 : Nat) (m28 : Nat) (m29 : Nat) (m30 : Nat) (m31 : Nat) (m32 : Nat) (m33 : Nat) (m34 : Nat) (m35 : Nat) (m36 : Nat) (m37 : Nat) (m38 : Nat) (m39 : Nat) (m40 : Nat) (m41 : Nat) (m42 : Nat) (m46 : Nat) (m53 : Nat) (m57 : Nat) (m58 : Nat) (k1 : ClassId) (k2 : ClassId) (k3 : ClassId) (p1 : Int32) (p2 : Int32) (p3 : Int32) : Met l yX12_row wk_f_X12_row ({ frames := 2, cells := 0, slots := 0, locals := 45 }) (va_Pc [.ref h0, .int p1, .int p2, .int p3] (fun U => U.heap.size = sz ∧ va_P (dC, dI) vwCl [(h0, .inr (12, [.int 0, .ref m1, .ref m2, .ref m3, .ref m4, .ref m5, .int 0, .int 0, .int 0, .int 0, .int 0, .long 0, .int 0, .int 0, .int 0, .int (-1), .ref m16, .ref m17, .ref m18, .ref m19, .ref m20, .ref m21, .ref m22, .ref m23, .int 0, .int 0, .int 0, .ref m27, .ref m28, .ref m29, .ref m30, .ref m31, .ref m32, .ref m33, .ref m34, .ref m35, .ref m36, .ref m37, .ref m38, .ref m39, .ref m40, .ref m41, .ref m42, .int 0, .int 0, .int 0, .ref m46, .int 0, .int 0, .int 0, .int 0, .int 0, .int 0, .ref m53, .int 0, .int 0, .int 0, .ref m57, .ref m58])), (m1, .inl (k1, 4, .inl (upd (upd (upd (upd (fun _ => 0) 0 (-1)) 1 (-1)) 2 (-1)) 3 (-1)))), (m2, .inl (k2, 4, .inl (fun _ => 0))), (m3, .inl (k3, 240, .inr (.inl (fun _ => 0))))] U.heap ∧ va_K (dC, dI) vwCl [(k1, .int), (k2, .int), (k3, .long)] U ∧ va_D (fun _ => True) [(h0, .inr (12, [.int 0, .ref m1, .ref m2, .ref m3, .ref m4, .ref m5, .int 0, .int 0, .int 0, .int 0, .int 0, .long 0, .int 0, .int 0, .int 0, .int (-1), .ref m16, .ref m17, .ref m18, .ref m19, .ref m20, .ref m21, .ref m22, .ref m23, .int 0, .int 0, .int 0, .ref m27, .ref m28, .ref m29, .ref m30, .ref m31, .ref m32, .ref m33, .ref m34, .ref m35, .ref m36, .ref m37, .ref m38, .ref m39, .ref m40, .ref m41, .ref m42, .int 0, .int 0, .int 0, .ref m46, .int 0, .int 0, .int 0, .int 0, .int 0, .int 0, .ref m53, .int 0, .int 0, .int 0, .ref m57, .ref m58])), (m1, .inl (k1, 4, .inl (upd (upd (upd (upd (fun _ => 0) 0 (-1)) 1 (-1)) 2 (-1)) 3 (-1)))), (m2, .inl (k2, 4, .inl (fun _ => 0))), (m3, .inl (k3, 240, .inr (.inl (fun _ => 0))))])) (va_Qi (fun (r : Int32) (_ : Unit) => (r = (-2) ∧ p1.toInt64 < (0 : Int64)) ∨ (r = (-2) ∧ ¬ p1.toInt64 < (0 : Int64) ∧ (3 : Int64) < p1.toInt64) ∨ (r = (-2) ∧ ¬ p1.toInt64 < (0 : Int64) ∧ ¬ (3 : Int64) < p1.toInt64 ∧ p2.toInt64 < (0 : Int64)) ∨ (r = (-2) ∧ ¬ p1.toInt64 < (0 : Int64) ∧ ¬ (3 : Int64) < p1.toInt64 ∧ ¬ p2.toInt64 < (0 : Int64) ∧ (3 : Int64) < p2.toInt64) ∨ (r = 0 ∧ ¬ p1.toInt64 < (0 : Int64) ∧ ¬ (3 : Int64) < p1.toInt64 ∧ ¬ p2.toInt64 < (0 : Int64) ∧ ¬ (3 : Int64) < p2.toInt64 ∧ p3 ≤ (60 : Int32) ∧ (0 : Int32) ≤ p3) ∨ (r = (-3) ∧ ¬ p1.toInt64 < (0 : Int64) ∧ ¬ (3 : Int64) < p1.toInt64 ∧ ¬ p2.toInt64 < (0 : Int64) ∧ ¬ (3 : Int64) < p2.toInt64 ∧ p3 ≤ (60 : Int32) ∧ ¬ (0 : Int32) ≤ p3) ∨ (r = (-2) ∧ ¬ p1.toInt64 < (0 : Int64) ∧ ¬ (3 : Int64) < p1.toInt64 ∧ ¬ p2.toInt64 < (0 : Int64) ∧ ¬ (3 : Int64) < p2.toInt64 ∧ ¬ p3 ≤ (60 : Int32))) (fun (_ : Unit) (_ : State) => True) (va_A [(h0, .inr (12, [.int 0, .ref m1, .ref m2, .ref m3, .ref m4, .ref m5, .int 0, .int 0, .int 0, .int 0, .int 0, .long 0, .int 0, .int 0, .int 0, .int (-1), .ref m16, .ref m17, .ref m18, .ref m19, .ref m20, .ref m21, .ref m22, .ref m23, .int 0, .int 0, .int 0, .ref m27, .ref m28, .ref m29, .ref m30, .ref m31, .ref m32, .ref m33, .ref m34, .ref m35, .ref m36, .ref m37, .ref m38, .ref m39, .ref m40, .ref m41, .ref m42, .int 0, .int 0, .int 0, .ref m46, .int 0, .int 0, .int 0, .int 0, .int 0, .int 0, .ref m53, .int 0, .int 0, .int 0, .ref m57, .ref m58])), (m1, .inl (k1, 4, .inl (upd (upd (upd (upd (fun _ => 0) 0 (-1)) 1 (-1)) 2 (-1)) 3 (-1)))), (m2, .inl (k2, 4, .inl (fun _ => 0))), (m3, .inl (k3, 240, .inr (.inl (fun _ => 0))))] sz)) 0 0 (va_A [(h0, .inr (12, [.int 0, .ref m1, .ref m2, .ref m3, .ref m4, .ref m5, .int 0, .int 0, .int 0, .int 0, .int 0, .long 0, .int 0, .int 0, .int 0, .int (-1), .ref m16, .ref m17, .ref m18, .ref m19, .ref m20, .ref m21, .ref m22, .ref m23, .int 0, .int 0, .int 0, .ref m27, .ref m28, .ref m29, .ref m30, .ref m31, .ref m32, .ref m33, .ref m34, .ref m35, .ref m36, .ref m37, .ref m38, .ref m39, .ref m40, .ref m41, .ref m42, .int 0, .int 0, .int 0, .ref m46, .int 0, .int 0, .int 0, .int 0, .int 0, .int 0, .ref m53, .int 0, .int 0, .int 0, .ref m57, .ref m58])), (m1, .inl (k1, 4, .inl (upd (upd (upd (upd (fun _ => 0) 0 (-1)) 1 (-1)) 2 (-1)) 3 (-1)))), (m2, .inl (k2, 4, .inl (fun _ => 0))), (m3, .inl (k3, 240, .inr (.inl (fun _ => 0))))] sz) := by
  refine Met.ofW (cc := cX12_row) (maxL := 5) (ret := (some .int)) (by decide) rfl ?_
  intro p e s m args below meth c s₁ B hml hv
  obtain ⟨rfl, hsz, hP, hK, hD0⟩ := hv
  have hx := B.exec
  have hb := B.bytes
  have hr := B.returns
  have hts := atoms_spec (ws := wk_f_X12_row) B.pre
  have hown : s.vm.findClass RX12 = some m.cls := findClass_of_methodNamed B.named
  have hlocks := B.notSynchronized
  subst hsz
  have hD := hD0.self (sz := s.heap.size)
  generalize hAe : va_A [(h0, .inr (12, [.int 0, .ref m1, .ref m2, .ref m3, .ref m4, .ref m5, .int 0, .int 0, .int 0, .int 0, .int 0, .long 0, .int 0, .int 0, .int 0, .int (-1), .ref m16, .ref m17, .ref m18, .ref m19, .ref m20, .ref m21, .ref m22, .ref m23, .int 0, .int 0, .int 0, .ref m27, .ref m28, .ref m29, .ref m30, .ref m31, .ref m32, .ref m33, .ref m34, .ref m35, .ref m36, .ref m37, .ref m38, .ref m39, .ref m40, .ref m41, .ref m42, .int 0, .int 0, .int 0, .ref m46, .int 0, .int 0, .int 0, .int 0, .int 0, .int 0, .ref m53, .int 0, .int 0, .int 0, .ref m57, .ref m58])), (m1, .inl (k1, 4, .inl (upd (upd (upd (upd (fun _ => 0) 0 (-1)) 1 (-1)) 2 (-1)) 3 (-1)))), (m2, .inl (k2, 4, .inl (fun _ => 0))), (m3, .inl (k3, 240, .inr (.inl (fun _ => 0))))] s.heap.size = A at hD ⊢
  have hA : ∀ q : Nat, s.heap.size ≤ q → A q := fun q h => by rw [← hAe]; exact Or.inr h
  have hS : va_S A s.heap s.heap [] := va_S.rf
  have hP : va_P (dC, dI) vwCl [(h0, .inr (12, [.int 0, .ref m1, .ref m2, .ref m3, .ref m4, .ref m5, .int 0, .int 0, .int 0, .int 0, .int 0, .long 0, .int 0, .int 0, .int 0, .int (-1), .ref m16, .ref m17, .ref m18, .ref m19, .ref m20, .ref m21, .ref m22, .ref m23, .int 0, .int 0, .int 0, .ref m27, .ref m28, .ref m29, .ref m30, .ref m31, .ref m32, .ref m33, .ref m34, .ref m35, .ref m36, .ref m37, .ref m38, .ref m39, .ref m40, .ref m41, .ref m42, .int 0, .int 0, .int 0, .ref m46, .int 0, .int 0, .int 0, .int 0, .int 0, .int 0, .ref m53, .int 0, .int 0, .int 0, .ref m57, .ref m58])), (m1, .inl (k1, 4, .inl (upd (upd (upd (upd (fun _ => 0) 0 (-1)) 1 (-1)) 2 (-1)) 3 (-1)))), (m2, .inl (k2, 4, .inl (fun _ => 0))), (m3, .inl (k3, 240, .inr (.inl (fun _ => 0))))] s.heap := hP
  have hl := lv_entry ([.ref h0, .int p1, .int p2, .int p3]) (n := 5) (Nat.le_of_ble_eq_true rfl)
  rw [lg_entry_eq]
  generalize (lg_sl ([.ref h0, .int p1, .int p2, .int p3]) ++ List.replicate (5 - (lg_sl ([.ref h0, .int p1, .int p2, .int p3])).length) Slot.unset).toArray = ls at hl ⊢
  have hl : lv_has ls 5 [(0, .ref h0), (1, .int p1), (2, .int p2), (3, .int p3)] := hl
  refine lv_aload_n hx hb dX12_row_0 rfl (lv_at hl 0 rfl) ?_
  refine lv_iconst (v := 0) hx hb dX12_row_1 (by decide) ?_
  refine va_put (D := (dC, dI)) (ci := 12) (v := .int 0) (ty := .int) (C := RX12) (T := TX12) (N := 59) hx hb hts (fun w h => List.mem_cons_of_mem _ (List.mem_append_right _ (List.mem_append_left _ h))) tyX12 tyX12_ok nmX12 hown hK hP hD hS 0 rfl rfl 0 (by decide) (hts (.fieldLink RX12 116 "SagMemoryModel" "thrown" "I") (wl_mem 0 rfl)) (fun _ h9 => h9) rfl (by decide +kernel) rfl rfl (Nat.le_of_ble_eq_true rfl) dX12_row_2 (fun H locs hP hD hS => ?_)
  have hP : va_P (dC, dI) vwCl [(h0, .inr (12, [.int 0, .ref m1, .ref m2, .ref m3, .ref m4, .ref m5, .int 0, .int 0, .int 0, .int 0, .int 0, .long 0, .int 0, .int 0, .int 0, .int (-1), .ref m16, .ref m17, .ref m18, .ref m19, .ref m20, .ref m21, .ref m22, .ref m23, .int 0, .int 0, .int 0, .ref m27, .ref m28, .ref m29, .ref m30, .ref m31, .ref m32, .ref m33, .ref m34, .ref m35, .ref m36, .ref m37, .ref m38, .ref m39, .ref m40, .ref m41, .ref m42, .int 0, .int 0, .int 0, .ref m46, .int 0, .int 0, .int 0, .int 0, .int 0, .int 0, .ref m53, .int 0, .int 0, .int 0, .ref m57, .ref m58])), (m1, .inl (k1, 4, .inl (upd (upd (upd (upd (fun _ => 0) 0 (-1)) 1 (-1)) 2 (-1)) 3 (-1)))), (m2, .inl (k2, 4, .inl (fun _ => 0))), (m3, .inl (k3, 240, .inr (.inl (fun _ => 0))))] H := hP
  have hD : va_D A [(h0, .inr (12, [.int 0, .ref m1, .ref m2, .ref m3, .ref m4, .ref m5, .int 0, .int 0, .int 0, .int 0, .int 0, .long 0, .int 0, .int 0, .int 0, .int (-1), .ref m16, .ref m17, .ref m18, .ref m19, .ref m20, .ref m21, .ref m22, .ref m23, .int 0, .int 0, .int 0, .ref m27, .ref m28, .ref m29, .ref m30, .ref m31, .ref m32, .ref m33, .ref m34, .ref m35, .ref m36, .ref m37, .ref m38, .ref m39, .ref m40, .ref m41, .ref m42, .int 0, .int 0, .int 0, .ref m46, .int 0, .int 0, .int 0, .int 0, .int 0, .int 0, .ref m53, .int 0, .int 0, .int 0, .ref m57, .ref m58])), (m1, .inl (k1, 4, .inl (upd (upd (upd (upd (fun _ => 0) 0 (-1)) 1 (-1)) 2 (-1)) 3 (-1)))), (m2, .inl (k2, 4, .inl (fun _ => 0))), (m3, .inl (k3, 240, .inr (.inl (fun _ => 0))))] := hD
  refine lv_iload_n hx hb dX12_row_5 rfl (lv_at hl 1 rfl) ?_
  have hPc := hP.sub (ws' := []) [] rfl
  have hKc := hK.sub (tys' := []) [] rfl
  refine vp_callSi (va_Run.run (va_runS (As := [.int p1]) (rest := []) ⟨hx, hb, hml, hown, hts⟩ (f_X12_isSlot l dC dI p1) (va_cwS 1 hts (gk_S (wl_mem 1 rfl) (wl_mem 2 rfl) (wl_mem 3 rfl) (fun w h => List.mem_cons_of_mem _ (List.mem_append_right _ (List.mem_append_right _ (List.mem_append_left _ h)))) wkg_f_X12_isSlot) rfl rfl rfl (by decide +kernel) ⟨Nat.le_of_ble_eq_true rfl, Nat.le_of_ble_eq_true rfl⟩) ⟨fun a U g mk q => by obtain ⟨q0, qP, qK⟩ := q; exact ⟨q0, qP, va_K.moved (u := U) (U := U.calling g mk a) (Vm.Alike.refl U.vm) qK⟩, fun U hU hW => ⟨rfl, by rw [hU]; exact hPc, va_K.moved hW.alike hKc⟩⟩ rfl rfl hl.1 rfl (lv_room (Nat.le_of_ble_eq_true rfl)) dX12_row_6 ⟨Nat.le_of_ble_eq_true rfl, Nat.le_of_ble_eq_true rfl⟩)) (fun rz2 hz1 => ?_)
  rcases hz1 with ⟨rfl, cz3⟩ | ⟨rfl, cz4, cz5⟩ | ⟨rfl, cz6, cz7⟩
  · skip
    refine lv_if_eq (tgt := 30) hx hb dX12_row_9 (by decide) (fun cz8 => ?_) (fun cz8 => ?_)
    · skip
      refine lv_bipush (v := (-2)) hx hb dX12_row_30 (by decide) ?_
      exact W.iret (v := (-2)) hx hb hr (fun t ht hW => ⟨⟨(-2), (), rfl, Or.inl ⟨rfl, cz3⟩, trivial⟩, hS.F ht⟩) hS.2.2 dX12_row_32
    · skip
      exact absurd cz8 (by decide)
  · skip
    refine lv_if_eq (tgt := 30) hx hb dX12_row_9 (by decide) (fun cz9 => ?_) (fun cz9 => ?_)
    · skip
      refine lv_bipush (v := (-2)) hx hb dX12_row_30 (by decide) ?_
      exact W.iret (v := (-2)) hx hb hr (fun t ht hW => ⟨⟨(-2), (), rfl, Or.inr (Or.inl ⟨rfl, cz4, cz5⟩), trivial⟩, hS.F ht⟩) hS.2.2 dX12_row_32
    · skip
      exact absurd cz9 (by decide)
  · skip
    refine lv_if_eq (tgt := 30) hx hb dX12_row_9 (by decide) (fun cz10 => ?_) (fun cz10 => ?_)
    · skip
      exact absurd cz10 (by decide)
    · skip
      refine lv_iload_n hx hb dX12_row_12 rfl (lv_at hl 2 rfl) ?_
      refine lv_i2l hx hb dX12_row_13 rfl ?_
      refine lv_lconst (v := 0) hx hb dX12_row_14 (by decide) ?_
      refine lv_ldc2 (v := 3) hx hb hown (hts (.constantLong RX12 119 (3)) (wl_mem 4 rfl)) dX12_row_15 ?_
      have hPc := hP.sub (ws' := []) [] rfl
      have hKc := hK.sub (tys' := []) [] rfl
      refine vp_callSi (va_Run.run (va_runS (As := [.long p2.toInt64, .long 0, .long 3]) (rest := []) ⟨hx, hb, hml, hown, hts⟩ (f_X12_in l dC dI p2.toInt64 0 3) (va_cwS 3 hts (gk_S (wl_mem 5 rfl) (wl_mem 6 rfl) (wl_mem 3 rfl) (fun w h => List.mem_cons_of_mem _ (List.mem_append_right _ (List.mem_append_right _ (List.mem_append_right _ (List.mem_append_left _ h))))) wkg_f_X12_in) rfl rfl rfl (by decide +kernel) ⟨Nat.le_of_ble_eq_true rfl, Nat.le_of_ble_eq_true rfl⟩) ⟨fun a U g mk q => by obtain ⟨q0, qP, qK⟩ := q; exact ⟨q0, qP, va_K.moved (u := U) (U := U.calling g mk a) (Vm.Alike.refl U.vm) qK⟩, fun U hU hW => ⟨rfl, by rw [hU]; exact hPc, va_K.moved hW.alike hKc⟩⟩ rfl rfl hl.1 rfl (lv_room (Nat.le_of_ble_eq_true rfl)) dX12_row_18 ⟨Nat.le_of_ble_eq_true rfl, Nat.le_of_ble_eq_true rfl⟩)) (fun rz12 hz11 => ?_)
      rcases hz11 with ⟨rfl, cz13⟩ | ⟨rfl, cz14, cz15⟩ | ⟨rfl, cz16, cz17⟩
      · skip
        refine lv_if_eq (tgt := 30) hx hb dX12_row_21 (by decide) (fun cz18 => ?_) (fun cz18 => ?_)
        · skip
          refine lv_bipush (v := (-2)) hx hb dX12_row_30 (by decide) ?_
          exact W.iret (v := (-2)) hx hb hr (fun t ht hW => ⟨⟨(-2), (), rfl, Or.inr (Or.inr (Or.inl ⟨rfl, cz6, cz7, cz13⟩)), trivial⟩, hS.F ht⟩) hS.2.2 dX12_row_32
        · skip
          exact absurd cz18 (by decide)
      · skip
        refine lv_if_eq (tgt := 30) hx hb dX12_row_21 (by decide) (fun cz19 => ?_) (fun cz19 => ?_)
        · skip
          refine lv_bipush (v := (-2)) hx hb dX12_row_30 (by decide) ?_
          exact W.iret (v := (-2)) hx hb hr (fun t ht hW => ⟨⟨(-2), (), rfl, Or.inr (Or.inr (Or.inr (Or.inl ⟨rfl, cz6, cz7, cz14, cz15⟩))), trivial⟩, hS.F ht⟩) hS.2.2 dX12_row_32
        · skip
          exact absurd cz19 (by decide)
      · skip
        refine lv_if_eq (tgt := 30) hx hb dX12_row_21 (by decide) (fun cz20 => ?_) (fun cz20 => ?_)
        · skip
          exact absurd cz20 (by decide)
        · skip
          refine lv_iload_n hx hb dX12_row_24 rfl (lv_at hl 3 rfl) ?_
          refine lv_bipush (v := 60) hx hb dX12_row_25 (by decide) ?_
          refine lv_icmp_le (tgt := 33) hx hb dX12_row_27 (by decide) (fun cz21 => ?_) (fun cz21 => ?_)
          · skip
            refine lv_iload_n hx hb dX12_row_33 rfl (lv_at hl 3 rfl) ?_
            refine lv_if_ge (tgt := 40) hx hb dX12_row_34 (by decide) (fun cz22 => ?_) (fun cz22 => ?_)
            · skip
              refine lv_aload_n hx hb dX12_row_40 rfl (lv_at hl 0 rfl) ?_
              refine va_get (D := (dC, dI)) (ci := 12) (v := .ref m1) (C := RX12) (T := TX12) (N := 59) hx hb hts (fun w h => List.mem_cons_of_mem _ (List.mem_append_right _ (List.mem_append_left _ h))) hown hK hP 0 rfl rfl 1 (by decide) (hts (.fieldLink RX12 7 "SagMemoryModel" "width" "[I") (wl_mem 7 rfl)) (fun _ h9 => h9) rfl dX12_row_41 ?_
              refine lv_iload_n hx hb dX12_row_44 rfl (lv_at hl 1 rfl) ?_
              refine lv_iload_n hx hb dX12_row_45 rfl (lv_at hl 2 rfl) ?_
              have z0 : ¬ p1.toInt < (0 : Int) := by intro h9; apply cz6; rw [zi_ltL]; simp only [Int32.toInt_toInt64]; exact h9
              have z1 : ¬ (3 : Int) < p1.toInt := by intro h9; apply cz7; rw [zi_ltL]; simp only [Int32.toInt_toInt64]; exact h9
              rcases (show p1 = 0 ∨ p1 = 1 ∨ p1 = 2 ∨ p1 = 3 by simp only [zi_eq]; show p1.toInt = 0 ∨ p1.toInt = 1 ∨ p1.toInt = 2 ∨ p1.toInt = 3; omega) with rfl | rfl | rfl | rfl
              · skip
                refine va_iast hx hb hK hP hD hS 1 0 rfl rfl (by unfold vp_in; decide) dX12_row_46 (fun H locs hP hD hS => ?_)
                have hP : va_P (dC, dI) vwCl [(h0, .inr (12, [.int 0, .ref m1, .ref m2, .ref m3, .ref m4, .ref m5, .int 0, .int 0, .int 0, .int 0, .int 0, .long 0, .int 0, .int 0, .int 0, .int (-1), .ref m16, .ref m17, .ref m18, .ref m19, .ref m20, .ref m21, .ref m22, .ref m23, .int 0, .int 0, .int 0, .ref m27, .ref m28, .ref m29, .ref m30, .ref m31, .ref m32, .ref m33, .ref m34, .ref m35, .ref m36, .ref m37, .ref m38, .ref m39, .ref m40, .ref m41, .ref m42, .int 0, .int 0, .int 0, .ref m46, .int 0, .int 0, .int 0, .int 0, .int 0, .int 0, .ref m53, .int 0, .int 0, .int 0, .ref m57, .ref m58])), (m1, .inl (k1, 4, .inl (upd (upd (upd (upd (upd (fun _ => 0) 0 (-1)) 1 (-1)) 2 (-1)) 3 (-1)) 0 p2))), (m2, .inl (k2, 4, .inl (fun _ => 0))), (m3, .inl (k3, 240, .inr (.inl (fun _ => 0))))] H := hP
                have hD : va_D A [(h0, .inr (12, [.int 0, .ref m1, .ref m2, .ref m3, .ref m4, .ref m5, .int 0, .int 0, .int 0, .int 0, .int 0, .long 0, .int 0, .int 0, .int 0, .int (-1), .ref m16, .ref m17, .ref m18, .ref m19, .ref m20, .ref m21, .ref m22, .ref m23, .int 0, .int 0, .int 0, .ref m27, .ref m28, .ref m29, .ref m30, .ref m31, .ref m32, .ref m33, .ref m34, .ref m35, .ref m36, .ref m37, .ref m38, .ref m39, .ref m40, .ref m41, .ref m42, .int 0, .int 0, .int 0, .ref m46, .int 0, .int 0, .int 0, .int 0, .int 0, .int 0, .ref m53, .int 0, .int 0, .int 0, .ref m57, .ref m58])), (m1, .inl (k1, 4, .inl (upd (upd (upd (upd (upd (fun _ => 0) 0 (-1)) 1 (-1)) 2 (-1)) 3 (-1)) 0 p2))), (m2, .inl (k2, 4, .inl (fun _ => 0))), (m3, .inl (k3, 240, .inr (.inl (fun _ => 0))))] := hD
                generalize (upd (upd (upd (upd (upd (fun _ => 0) 0 (-1)) 1 (-1)) 2 (-1)) 3 (-1)) 0 p2) = fz23 at hP hD
                refine lv_aload_n hx hb dX12_row_47 rfl (lv_at hl 0 rfl) ?_
                refine va_get (D := (dC, dI)) (ci := 12) (v := .ref m2) (C := RX12) (T := TX12) (N := 59) hx hb hts (fun w h => List.mem_cons_of_mem _ (List.mem_append_right _ (List.mem_append_left _ h))) hown hK hP 0 rfl rfl 2 (by decide) (hts (.fieldLink RX12 13 "SagMemoryModel" "many" "[I") (wl_mem 8 rfl)) (fun _ h9 => h9) rfl dX12_row_48 ?_
                refine lv_iload_n hx hb dX12_row_51 rfl (lv_at hl 1 rfl) ?_
                refine lv_iload_n hx hb dX12_row_52 rfl (lv_at hl 3 rfl) ?_
                refine va_iast hx hb hK hP hD hS 2 1 rfl rfl (by unfold vp_in; decide) dX12_row_53 (fun H locs hP hD hS => ?_)
                have hP : va_P (dC, dI) vwCl [(h0, .inr (12, [.int 0, .ref m1, .ref m2, .ref m3, .ref m4, .ref m5, .int 0, .int 0, .int 0, .int 0, .int 0, .long 0, .int 0, .int 0, .int 0, .int (-1), .ref m16, .ref m17, .ref m18, .ref m19, .ref m20, .ref m21, .ref m22, .ref m23, .int 0, .int 0, .int 0, .ref m27, .ref m28, .ref m29, .ref m30, .ref m31, .ref m32, .ref m33, .ref m34, .ref m35, .ref m36, .ref m37, .ref m38, .ref m39, .ref m40, .ref m41, .ref m42, .int 0, .int 0, .int 0, .ref m46, .int 0, .int 0, .int 0, .int 0, .int 0, .int 0, .ref m53, .int 0, .int 0, .int 0, .ref m57, .ref m58])), (m1, .inl (k1, 4, .inl fz23)), (m2, .inl (k2, 4, .inl (upd (fun _ => 0) 0 p3))), (m3, .inl (k3, 240, .inr (.inl (fun _ => 0))))] H := hP
                have hD : va_D A [(h0, .inr (12, [.int 0, .ref m1, .ref m2, .ref m3, .ref m4, .ref m5, .int 0, .int 0, .int 0, .int 0, .int 0, .long 0, .int 0, .int 0, .int 0, .int (-1), .ref m16, .ref m17, .ref m18, .ref m19, .ref m20, .ref m21, .ref m22, .ref m23, .int 0, .int 0, .int 0, .ref m27, .ref m28, .ref m29, .ref m30, .ref m31, .ref m32, .ref m33, .ref m34, .ref m35, .ref m36, .ref m37, .ref m38, .ref m39, .ref m40, .ref m41, .ref m42, .int 0, .int 0, .int 0, .ref m46, .int 0, .int 0, .int 0, .int 0, .int 0, .int 0, .ref m53, .int 0, .int 0, .int 0, .ref m57, .ref m58])), (m1, .inl (k1, 4, .inl fz23)), (m2, .inl (k2, 4, .inl (upd (fun _ => 0) 0 p3))), (m3, .inl (k3, 240, .inr (.inl (fun _ => 0))))] := hD
                generalize (upd (fun _ => 0) 0 p3) = fz24 at hP hD
                refine lv_iconst (v := 0) hx hb dX12_row_54 (by decide) ?_
                refine lv_istore (lv' := [(4, .int 0), (0, .ref h0), (1, .int 0), (2, .int p2), (3, .int p3)]) hx hb dX12_row_55 hl (by decide) rfl (fun ls hl => ?_)
                have z6 : p3.toInt ≤ (60 : Int) := zi_le.mp cz21
                have z7 : (0 : Int) ≤ p3.toInt := zi_le.mp cz22
                obtain ⟨nz25, hnz25, rfl⟩ : ∃ n : Nat, n ≤ 60 ∧ p3 = nI n := nI_of2 (M := 60) (by decide) (by rw [zi_lt]; show ¬ p3.toInt < 0; omega) (by rw [zi_le]; show p3.toInt ≤ 60; omega)
                refine row_loop hx hb hown (List.forall_mem_cons.mpr ⟨(hts (.fieldLink RX12 16 "SagMemoryModel" "cells" "[J") (wl_mem 9 rfl)), fun w h => hts w ((fun w h => List.mem_cons_of_mem _ (List.mem_append_right _ (List.mem_append_left _ h))) w h)⟩) (hK.sub [2] rfl) p2 0 nz25 (by decide) hnz25 (fun H locs ls hS => ?_) nz25 0 (by omega) H _ ls (hP.sub [0, 3] rfl) (hD.sub [0, 3] (by decide) rfl) hS (lv_sub hl [0, 1, 2, 3, 4] rfl)
                refine lv_iconst (v := 0) hx hb dX12_row_82 (by decide) ?_
                exact W.iret (v := 0) hx hb hr (fun t ht hW => ⟨⟨0, (), rfl, Or.inr (Or.inr (Or.inr (Or.inr (Or.inl ⟨rfl, cz6, cz7, cz16, cz17, cz21, cz22⟩)))), trivial⟩, hS.F ht⟩) hS.2.2 dX12_row_83
              · skip
                refine va_iast hx hb hK hP hD hS 1 0 rfl rfl (by unfold vp_in; decide) dX12_row_46 (fun H locs hP hD hS => ?_)
                have hP : va_P (dC, dI) vwCl [(h0, .inr (12, [.int 0, .ref m1, .ref m2, .ref m3, .ref m4, .ref m5, .int 0, .int 0, .int 0, .int 0, .int 0, .long 0, .int 0, .int 0, .int 0, .int (-1), .ref m16, .ref m17, .ref m18, .ref m19, .ref m20, .ref m21, .ref m22, .ref m23, .int 0, .int 0, .int 0, .ref m27, .ref m28, .ref m29, .ref m30, .ref m31, .ref m32, .ref m33, .ref m34, .ref m35, .ref m36, .ref m37, .ref m38, .ref m39, .ref m40, .ref m41, .ref m42, .int 0, .int 0, .int 0, .ref m46, .int 0, .int 0, .int 0, .int 0, .int 0, .int 0, .ref m53, .int 0, .int 0, .int 0, .ref m57, .ref m58])), (m1, .inl (k1, 4, .inl (upd (upd (upd (upd (upd (fun _ => 0) 0 (-1)) 1 (-1)) 2 (-1)) 3 (-1)) 1 p2))), (m2, .inl (k2, 4, .inl (fun _ => 0))), (m3, .inl (k3, 240, .inr (.inl (fun _ => 0))))] H := hP
                have hD : va_D A [(h0, .inr (12, [.int 0, .ref m1, .ref m2, .ref m3, .ref m4, .ref m5, .int 0, .int 0, .int 0, .int 0, .int 0, .long 0, .int 0, .int 0, .int 0, .int (-1), .ref m16, .ref m17, .ref m18, .ref m19, .ref m20, .ref m21, .ref m22, .ref m23, .int 0, .int 0, .int 0, .ref m27, .ref m28, .ref m29, .ref m30, .ref m31, .ref m32, .ref m33, .ref m34, .ref m35, .ref m36, .ref m37, .ref m38, .ref m39, .ref m40, .ref m41, .ref m42, .int 0, .int 0, .int 0, .ref m46, .int 0, .int 0, .int 0, .int 0, .int 0, .int 0, .ref m53, .int 0, .int 0, .int 0, .ref m57, .ref m58])), (m1, .inl (k1, 4, .inl (upd (upd (upd (upd (upd (fun _ => 0) 0 (-1)) 1 (-1)) 2 (-1)) 3 (-1)) 1 p2))), (m2, .inl (k2, 4, .inl (fun _ => 0))), (m3, .inl (k3, 240, .inr (.inl (fun _ => 0))))] := hD
                generalize (upd (upd (upd (upd (upd (fun _ => 0) 0 (-1)) 1 (-1)) 2 (-1)) 3 (-1)) 1 p2) = fz26 at hP hD
                refine lv_aload_n hx hb dX12_row_47 rfl (lv_at hl 0 rfl) ?_
                refine va_get (D := (dC, dI)) (ci := 12) (v := .ref m2) (C := RX12) (T := TX12) (N := 59) hx hb hts (fun w h => List.mem_cons_of_mem _ (List.mem_append_right _ (List.mem_append_left _ h))) hown hK hP 0 rfl rfl 2 (by decide) (hts (.fieldLink RX12 13 "SagMemoryModel" "many" "[I") (wl_mem 8 rfl)) (fun _ h9 => h9) rfl dX12_row_48 ?_
                refine lv_iload_n hx hb dX12_row_51 rfl (lv_at hl 1 rfl) ?_
                refine lv_iload_n hx hb dX12_row_52 rfl (lv_at hl 3 rfl) ?_
                refine va_iast hx hb hK hP hD hS 2 1 rfl rfl (by unfold vp_in; decide) dX12_row_53 (fun H locs hP hD hS => ?_)
                have hP : va_P (dC, dI) vwCl [(h0, .inr (12, [.int 0, .ref m1, .ref m2, .ref m3, .ref m4, .ref m5, .int 0, .int 0, .int 0, .int 0, .int 0, .long 0, .int 0, .int 0, .int 0, .int (-1), .ref m16, .ref m17, .ref m18, .ref m19, .ref m20, .ref m21, .ref m22, .ref m23, .int 0, .int 0, .int 0, .ref m27, .ref m28, .ref m29, .ref m30, .ref m31, .ref m32, .ref m33, .ref m34, .ref m35, .ref m36, .ref m37, .ref m38, .ref m39, .ref m40, .ref m41, .ref m42, .int 0, .int 0, .int 0, .ref m46, .int 0, .int 0, .int 0, .int 0, .int 0, .int 0, .ref m53, .int 0, .int 0, .int 0, .ref m57, .ref m58])), (m1, .inl (k1, 4, .inl fz26)), (m2, .inl (k2, 4, .inl (upd (fun _ => 0) 1 p3))), (m3, .inl (k3, 240, .inr (.inl (fun _ => 0))))] H := hP
                have hD : va_D A [(h0, .inr (12, [.int 0, .ref m1, .ref m2, .ref m3, .ref m4, .ref m5, .int 0, .int 0, .int 0, .int 0, .int 0, .long 0, .int 0, .int 0, .int 0, .int (-1), .ref m16, .ref m17, .ref m18, .ref m19, .ref m20, .ref m21, .ref m22, .ref m23, .int 0, .int 0, .int 0, .ref m27, .ref m28, .ref m29, .ref m30, .ref m31, .ref m32, .ref m33, .ref m34, .ref m35, .ref m36, .ref m37, .ref m38, .ref m39, .ref m40, .ref m41, .ref m42, .int 0, .int 0, .int 0, .ref m46, .int 0, .int 0, .int 0, .int 0, .int 0, .int 0, .ref m53, .int 0, .int 0, .int 0, .ref m57, .ref m58])), (m1, .inl (k1, 4, .inl fz26)), (m2, .inl (k2, 4, .inl (upd (fun _ => 0) 1 p3))), (m3, .inl (k3, 240, .inr (.inl (fun _ => 0))))] := hD
                generalize (upd (fun _ => 0) 1 p3) = fz27 at hP hD
                refine lv_iconst (v := 0) hx hb dX12_row_54 (by decide) ?_
                refine lv_istore (lv' := [(4, .int 0), (0, .ref h0), (1, .int 1), (2, .int p2), (3, .int p3)]) hx hb dX12_row_55 hl (by decide) rfl (fun ls hl => ?_)
                have z6 : p3.toInt ≤ (60 : Int) := zi_le.mp cz21
                have z7 : (0 : Int) ≤ p3.toInt := zi_le.mp cz22
                obtain ⟨nz28, hnz28, rfl⟩ : ∃ n : Nat, n ≤ 60 ∧ p3 = nI n := nI_of2 (M := 60) (by decide) (by rw [zi_lt]; show ¬ p3.toInt < 0; omega) (by rw [zi_le]; show p3.toInt ≤ 60; omega)
                refine row_loop hx hb hown (List.forall_mem_cons.mpr ⟨(hts (.fieldLink RX12 16 "SagMemoryModel" "cells" "[J") (wl_mem 9 rfl)), fun w h => hts w ((fun w h => List.mem_cons_of_mem _ (List.mem_append_right _ (List.mem_append_left _ h))) w h)⟩) (hK.sub [2] rfl) p2 1 nz28 (by decide) hnz28 (fun H locs ls hS => ?_) nz28 0 (by omega) H _ ls (hP.sub [0, 3] rfl) (hD.sub [0, 3] (by decide) rfl) hS (lv_sub hl [0, 1, 2, 3, 4] rfl)
                refine lv_iconst (v := 0) hx hb dX12_row_82 (by decide) ?_
                exact W.iret (v := 0) hx hb hr (fun t ht hW => ⟨⟨0, (), rfl, Or.inr (Or.inr (Or.inr (Or.inr (Or.inl ⟨rfl, cz6, cz7, cz16, cz17, cz21, cz22⟩)))), trivial⟩, hS.F ht⟩) hS.2.2 dX12_row_83
              · skip
                refine va_iast hx hb hK hP hD hS 1 0 rfl rfl (by unfold vp_in; decide) dX12_row_46 (fun H locs hP hD hS => ?_)
                have hP : va_P (dC, dI) vwCl [(h0, .inr (12, [.int 0, .ref m1, .ref m2, .ref m3, .ref m4, .ref m5, .int 0, .int 0, .int 0, .int 0, .int 0, .long 0, .int 0, .int 0, .int 0, .int (-1), .ref m16, .ref m17, .ref m18, .ref m19, .ref m20, .ref m21, .ref m22, .ref m23, .int 0, .int 0, .int 0, .ref m27, .ref m28, .ref m29, .ref m30, .ref m31, .ref m32, .ref m33, .ref m34, .ref m35, .ref m36, .ref m37, .ref m38, .ref m39, .ref m40, .ref m41, .ref m42, .int 0, .int 0, .int 0, .ref m46, .int 0, .int 0, .int 0, .int 0, .int 0, .int 0, .ref m53, .int 0, .int 0, .int 0, .ref m57, .ref m58])), (m1, .inl (k1, 4, .inl (upd (upd (upd (upd (upd (fun _ => 0) 0 (-1)) 1 (-1)) 2 (-1)) 3 (-1)) 2 p2))), (m2, .inl (k2, 4, .inl (fun _ => 0))), (m3, .inl (k3, 240, .inr (.inl (fun _ => 0))))] H := hP
                have hD : va_D A [(h0, .inr (12, [.int 0, .ref m1, .ref m2, .ref m3, .ref m4, .ref m5, .int 0, .int 0, .int 0, .int 0, .int 0, .long 0, .int 0, .int 0, .int 0, .int (-1), .ref m16, .ref m17, .ref m18, .ref m19, .ref m20, .ref m21, .ref m22, .ref m23, .int 0, .int 0, .int 0, .ref m27, .ref m28, .ref m29, .ref m30, .ref m31, .ref m32, .ref m33, .ref m34, .ref m35, .ref m36, .ref m37, .ref m38, .ref m39, .ref m40, .ref m41, .ref m42, .int 0, .int 0, .int 0, .ref m46, .int 0, .int 0, .int 0, .int 0, .int 0, .int 0, .ref m53, .int 0, .int 0, .int 0, .ref m57, .ref m58])), (m1, .inl (k1, 4, .inl (upd (upd (upd (upd (upd (fun _ => 0) 0 (-1)) 1 (-1)) 2 (-1)) 3 (-1)) 2 p2))), (m2, .inl (k2, 4, .inl (fun _ => 0))), (m3, .inl (k3, 240, .inr (.inl (fun _ => 0))))] := hD
                generalize (upd (upd (upd (upd (upd (fun _ => 0) 0 (-1)) 1 (-1)) 2 (-1)) 3 (-1)) 2 p2) = fz29 at hP hD
                refine lv_aload_n hx hb dX12_row_47 rfl (lv_at hl 0 rfl) ?_
                refine va_get (D := (dC, dI)) (ci := 12) (v := .ref m2) (C := RX12) (T := TX12) (N := 59) hx hb hts (fun w h => List.mem_cons_of_mem _ (List.mem_append_right _ (List.mem_append_left _ h))) hown hK hP 0 rfl rfl 2 (by decide) (hts (.fieldLink RX12 13 "SagMemoryModel" "many" "[I") (wl_mem 8 rfl)) (fun _ h9 => h9) rfl dX12_row_48 ?_
                refine lv_iload_n hx hb dX12_row_51 rfl (lv_at hl 1 rfl) ?_
                refine lv_iload_n hx hb dX12_row_52 rfl (lv_at hl 3 rfl) ?_
                refine va_iast hx hb hK hP hD hS 2 1 rfl rfl (by unfold vp_in; decide) dX12_row_53 (fun H locs hP hD hS => ?_)
                have hP : va_P (dC, dI) vwCl [(h0, .inr (12, [.int 0, .ref m1, .ref m2, .ref m3, .ref m4, .ref m5, .int 0, .int 0, .int 0, .int 0, .int 0, .long 0, .int 0, .int 0, .int 0, .int (-1), .ref m16, .ref m17, .ref m18, .ref m19, .ref m20, .ref m21, .ref m22, .ref m23, .int 0, .int 0, .int 0, .ref m27, .ref m28, .ref m29, .ref m30, .ref m31, .ref m32, .ref m33, .ref m34, .ref m35, .ref m36, .ref m37, .ref m38, .ref m39, .ref m40, .ref m41, .ref m42, .int 0, .int 0, .int 0, .ref m46, .int 0, .int 0, .int 0, .int 0, .int 0, .int 0, .ref m53, .int 0, .int 0, .int 0, .ref m57, .ref m58])), (m1, .inl (k1, 4, .inl fz29)), (m2, .inl (k2, 4, .inl (upd (fun _ => 0) 2 p3))), (m3, .inl (k3, 240, .inr (.inl (fun _ => 0))))] H := hP
                have hD : va_D A [(h0, .inr (12, [.int 0, .ref m1, .ref m2, .ref m3, .ref m4, .ref m5, .int 0, .int 0, .int 0, .int 0, .int 0, .long 0, .int 0, .int 0, .int 0, .int (-1), .ref m16, .ref m17, .ref m18, .ref m19, .ref m20, .ref m21, .ref m22, .ref m23, .int 0, .int 0, .int 0, .ref m27, .ref m28, .ref m29, .ref m30, .ref m31, .ref m32, .ref m33, .ref m34, .ref m35, .ref m36, .ref m37, .ref m38, .ref m39, .ref m40, .ref m41, .ref m42, .int 0, .int 0, .int 0, .ref m46, .int 0, .int 0, .int 0, .int 0, .int 0, .int 0, .ref m53, .int 0, .int 0, .int 0, .ref m57, .ref m58])), (m1, .inl (k1, 4, .inl fz29)), (m2, .inl (k2, 4, .inl (upd (fun _ => 0) 2 p3))), (m3, .inl (k3, 240, .inr (.inl (fun _ => 0))))] := hD
                generalize (upd (fun _ => 0) 2 p3) = fz30 at hP hD
                refine lv_iconst (v := 0) hx hb dX12_row_54 (by decide) ?_
                refine lv_istore (lv' := [(4, .int 0), (0, .ref h0), (1, .int 2), (2, .int p2), (3, .int p3)]) hx hb dX12_row_55 hl (by decide) rfl (fun ls hl => ?_)
                have z6 : p3.toInt ≤ (60 : Int) := zi_le.mp cz21
                have z7 : (0 : Int) ≤ p3.toInt := zi_le.mp cz22
                obtain ⟨nz31, hnz31, rfl⟩ : ∃ n : Nat, n ≤ 60 ∧ p3 = nI n := nI_of2 (M := 60) (by decide) (by rw [zi_lt]; show ¬ p3.toInt < 0; omega) (by rw [zi_le]; show p3.toInt ≤ 60; omega)
                refine row_loop hx hb hown (List.forall_mem_cons.mpr ⟨(hts (.fieldLink RX12 16 "SagMemoryModel" "cells" "[J") (wl_mem 9 rfl)), fun w h => hts w ((fun w h => List.mem_cons_of_mem _ (List.mem_append_right _ (List.mem_append_left _ h))) w h)⟩) (hK.sub [2] rfl) p2 2 nz31 (by decide) hnz31 (fun H locs ls hS => ?_) nz31 0 (by omega) H _ ls (hP.sub [0, 3] rfl) (hD.sub [0, 3] (by decide) rfl) hS (lv_sub hl [0, 1, 2, 3, 4] rfl)
                refine lv_iconst (v := 0) hx hb dX12_row_82 (by decide) ?_
                exact W.iret (v := 0) hx hb hr (fun t ht hW => ⟨⟨0, (), rfl, Or.inr (Or.inr (Or.inr (Or.inr (Or.inl ⟨rfl, cz6, cz7, cz16, cz17, cz21, cz22⟩)))), trivial⟩, hS.F ht⟩) hS.2.2 dX12_row_83
              · skip
                refine va_iast hx hb hK hP hD hS 1 0 rfl rfl (by unfold vp_in; decide) dX12_row_46 (fun H locs hP hD hS => ?_)
                have hP : va_P (dC, dI) vwCl [(h0, .inr (12, [.int 0, .ref m1, .ref m2, .ref m3, .ref m4, .ref m5, .int 0, .int 0, .int 0, .int 0, .int 0, .long 0, .int 0, .int 0, .int 0, .int (-1), .ref m16, .ref m17, .ref m18, .ref m19, .ref m20, .ref m21, .ref m22, .ref m23, .int 0, .int 0, .int 0, .ref m27, .ref m28, .ref m29, .ref m30, .ref m31, .ref m32, .ref m33, .ref m34, .ref m35, .ref m36, .ref m37, .ref m38, .ref m39, .ref m40, .ref m41, .ref m42, .int 0, .int 0, .int 0, .ref m46, .int 0, .int 0, .int 0, .int 0, .int 0, .int 0, .ref m53, .int 0, .int 0, .int 0, .ref m57, .ref m58])), (m1, .inl (k1, 4, .inl (upd (upd (upd (upd (upd (fun _ => 0) 0 (-1)) 1 (-1)) 2 (-1)) 3 (-1)) 3 p2))), (m2, .inl (k2, 4, .inl (fun _ => 0))), (m3, .inl (k3, 240, .inr (.inl (fun _ => 0))))] H := hP
                have hD : va_D A [(h0, .inr (12, [.int 0, .ref m1, .ref m2, .ref m3, .ref m4, .ref m5, .int 0, .int 0, .int 0, .int 0, .int 0, .long 0, .int 0, .int 0, .int 0, .int (-1), .ref m16, .ref m17, .ref m18, .ref m19, .ref m20, .ref m21, .ref m22, .ref m23, .int 0, .int 0, .int 0, .ref m27, .ref m28, .ref m29, .ref m30, .ref m31, .ref m32, .ref m33, .ref m34, .ref m35, .ref m36, .ref m37, .ref m38, .ref m39, .ref m40, .ref m41, .ref m42, .int 0, .int 0, .int 0, .ref m46, .int 0, .int 0, .int 0, .int 0, .int 0, .int 0, .ref m53, .int 0, .int 0, .int 0, .ref m57, .ref m58])), (m1, .inl (k1, 4, .inl (upd (upd (upd (upd (upd (fun _ => 0) 0 (-1)) 1 (-1)) 2 (-1)) 3 (-1)) 3 p2))), (m2, .inl (k2, 4, .inl (fun _ => 0))), (m3, .inl (k3, 240, .inr (.inl (fun _ => 0))))] := hD
                generalize (upd (upd (upd (upd (upd (fun _ => 0) 0 (-1)) 1 (-1)) 2 (-1)) 3 (-1)) 3 p2) = fz32 at hP hD
                refine lv_aload_n hx hb dX12_row_47 rfl (lv_at hl 0 rfl) ?_
                refine va_get (D := (dC, dI)) (ci := 12) (v := .ref m2) (C := RX12) (T := TX12) (N := 59) hx hb hts (fun w h => List.mem_cons_of_mem _ (List.mem_append_right _ (List.mem_append_left _ h))) hown hK hP 0 rfl rfl 2 (by decide) (hts (.fieldLink RX12 13 "SagMemoryModel" "many" "[I") (wl_mem 8 rfl)) (fun _ h9 => h9) rfl dX12_row_48 ?_
                refine lv_iload_n hx hb dX12_row_51 rfl (lv_at hl 1 rfl) ?_
                refine lv_iload_n hx hb dX12_row_52 rfl (lv_at hl 3 rfl) ?_
                refine va_iast hx hb hK hP hD hS 2 1 rfl rfl (by unfold vp_in; decide) dX12_row_53 (fun H locs hP hD hS => ?_)
                have hP : va_P (dC, dI) vwCl [(h0, .inr (12, [.int 0, .ref m1, .ref m2, .ref m3, .ref m4, .ref m5, .int 0, .int 0, .int 0, .int 0, .int 0, .long 0, .int 0, .int 0, .int 0, .int (-1), .ref m16, .ref m17, .ref m18, .ref m19, .ref m20, .ref m21, .ref m22, .ref m23, .int 0, .int 0, .int 0, .ref m27, .ref m28, .ref m29, .ref m30, .ref m31, .ref m32, .ref m33, .ref m34, .ref m35, .ref m36, .ref m37, .ref m38, .ref m39, .ref m40, .ref m41, .ref m42, .int 0, .int 0, .int 0, .ref m46, .int 0, .int 0, .int 0, .int 0, .int 0, .int 0, .ref m53, .int 0, .int 0, .int 0, .ref m57, .ref m58])), (m1, .inl (k1, 4, .inl fz32)), (m2, .inl (k2, 4, .inl (upd (fun _ => 0) 3 p3))), (m3, .inl (k3, 240, .inr (.inl (fun _ => 0))))] H := hP
                have hD : va_D A [(h0, .inr (12, [.int 0, .ref m1, .ref m2, .ref m3, .ref m4, .ref m5, .int 0, .int 0, .int 0, .int 0, .int 0, .long 0, .int 0, .int 0, .int 0, .int (-1), .ref m16, .ref m17, .ref m18, .ref m19, .ref m20, .ref m21, .ref m22, .ref m23, .int 0, .int 0, .int 0, .ref m27, .ref m28, .ref m29, .ref m30, .ref m31, .ref m32, .ref m33, .ref m34, .ref m35, .ref m36, .ref m37, .ref m38, .ref m39, .ref m40, .ref m41, .ref m42, .int 0, .int 0, .int 0, .ref m46, .int 0, .int 0, .int 0, .int 0, .int 0, .int 0, .ref m53, .int 0, .int 0, .int 0, .ref m57, .ref m58])), (m1, .inl (k1, 4, .inl fz32)), (m2, .inl (k2, 4, .inl (upd (fun _ => 0) 3 p3))), (m3, .inl (k3, 240, .inr (.inl (fun _ => 0))))] := hD
                generalize (upd (fun _ => 0) 3 p3) = fz33 at hP hD
                refine lv_iconst (v := 0) hx hb dX12_row_54 (by decide) ?_
                refine lv_istore (lv' := [(4, .int 0), (0, .ref h0), (1, .int 3), (2, .int p2), (3, .int p3)]) hx hb dX12_row_55 hl (by decide) rfl (fun ls hl => ?_)
                have z6 : p3.toInt ≤ (60 : Int) := zi_le.mp cz21
                have z7 : (0 : Int) ≤ p3.toInt := zi_le.mp cz22
                obtain ⟨nz34, hnz34, rfl⟩ : ∃ n : Nat, n ≤ 60 ∧ p3 = nI n := nI_of2 (M := 60) (by decide) (by rw [zi_lt]; show ¬ p3.toInt < 0; omega) (by rw [zi_le]; show p3.toInt ≤ 60; omega)
                refine row_loop hx hb hown (List.forall_mem_cons.mpr ⟨(hts (.fieldLink RX12 16 "SagMemoryModel" "cells" "[J") (wl_mem 9 rfl)), fun w h => hts w ((fun w h => List.mem_cons_of_mem _ (List.mem_append_right _ (List.mem_append_left _ h))) w h)⟩) (hK.sub [2] rfl) p2 3 nz34 (by decide) hnz34 (fun H locs ls hS => ?_) nz34 0 (by omega) H _ ls (hP.sub [0, 3] rfl) (hD.sub [0, 3] (by decide) rfl) hS (lv_sub hl [0, 1, 2, 3, 4] rfl)
                refine lv_iconst (v := 0) hx hb dX12_row_82 (by decide) ?_
                exact W.iret (v := 0) hx hb hr (fun t ht hW => ⟨⟨0, (), rfl, Or.inr (Or.inr (Or.inr (Or.inr (Or.inl ⟨rfl, cz6, cz7, cz16, cz17, cz21, cz22⟩)))), trivial⟩, hS.F ht⟩) hS.2.2 dX12_row_83
            · skip
              refine lv_bipush (v := (-3)) hx hb dX12_row_37 (by decide) ?_
              exact W.iret (v := (-3)) hx hb hr (fun t ht hW => ⟨⟨(-3), (), rfl, Or.inr (Or.inr (Or.inr (Or.inr (Or.inr (Or.inl ⟨rfl, cz6, cz7, cz16, cz17, cz21, cz22⟩))))), trivial⟩, hS.F ht⟩) hS.2.2 dX12_row_39
          · skip
            refine lv_bipush (v := (-2)) hx hb dX12_row_30 (by decide) ?_
            exact W.iret (v := (-2)) hx hb hr (fun t ht hW => ⟨⟨(-2), (), rfl, Or.inr (Or.inr (Or.inr (Or.inr (Or.inr (Or.inr (⟨rfl, cz6, cz7, cz16, cz17, cz21⟩)))))), trivial⟩, hS.F ht⟩) hS.2.2 dX12_row_32
