theorem zl_ {args : Array Value} {s : State} {a b : Jvm.Cond} (h : (Jvm.Cond.and a b).before args s = true) : a.before args s = true := by
  rw [Cond.before_and, Bool.and_eq_true] at h; exact h.1
theorem zr_ {args : Array Value} {s : State} {a b : Jvm.Cond} (h : (Jvm.Cond.and a b).before args s = true) : b.before args s = true := by
  rw [Cond.before_and, Bool.and_eq_true] at h; exact h.2
theorem zs_0 {args : Array Value} {s : State} {A : Nat → Prop} (hgv : (Jvm.Cond.and given_1 narrow_1).before args s = true) (hA : ∀ a : Nat, a < s.heap.size → ¬ A a) : ∃ (a t : Nat), (Term.string "SagMemory$Tape" 51).eval args s none [] s = some (.ref a) ∧ va_O "java/lang/String" a A s s.heap ∧ va_OF "java/lang/String" "coder" "B" (.int 0) a A s s.heap ∧ va_OF "java/lang/String" "value" "[B" (.ref t) a A s s.heap ∧ va_T .byte t 6 (fun j => .int (([118, 97, 108, 108, 101, 121] : List Int32).getD j 0)) A s s.heap := by
  have hn : narrow_1.before args s = true := zr_ hgv
  obtain ⟨adK, adV, h1, h2⟩ := vk_Sof (N := 1) (tm := fun _ => (Term.string "SagMemory$Tape" 51)) (len := [6]) (byt := [[118, 97, 108, 108, 101, 121]]) (A := A) (args := args) (s := s) (fun i hi => by obtain rfl : i = 0 := (by omega); decide) (fun i hi => (zr_ (zr_ (zl_ (zr_ (zr_ (zr_ (zl_ (zl_ hn))))))))) (fun i hi => (zl_ (zl_ (zr_ (zr_ (zr_ (zr_ (zl_ (zl_ hn))))))))) (fun i hi => (zr_ (zl_ (zr_ (zr_ (zr_ (zr_ (zl_ (zl_ hn)))))))))
    (fun i hi => by obtain rfl : i = 0 := (by omega); exact (zl_ (zr_ (zr_ (zr_ (zr_ (zr_ (zl_ (zl_ hn)))))))))
    (fun i hi j hj => by
      obtain rfl : i = 0 := by omega
      have hj : j < 6 := hj
      rcases (show j = 0 ∨ j = 1 ∨ j = 2 ∨ j = 3 ∨ j = 4 ∨ j = 5 by omega) with rfl | rfl | rfl | rfl | rfl | rfl
      · exact (zl_ (zr_ (zr_ (zr_ (zr_ (zr_ (zr_ (zl_ (zl_ hn)))))))))
      · exact (zr_ (zr_ (zr_ (zr_ (zr_ (zr_ (zr_ (zl_ (zl_ hn)))))))))
      · exact (zl_ (zl_ (zl_ (zl_ (zl_ (zl_ (zr_ (zl_ hn))))))))
      · exact (zr_ (zl_ (zl_ (zl_ (zl_ (zl_ (zr_ (zl_ hn))))))))
      · exact (zl_ (zr_ (zl_ (zl_ (zl_ (zl_ (zr_ (zl_ hn))))))))
      · exact (zr_ (zr_ (zl_ (zl_ (zl_ (zl_ (zr_ (zl_ hn))))))))
    ) (fun i j hi hj hij => absurd (by omega) hij) hA
  exact ⟨adK 0, adV 0, h2 0 (by decide), (h1.1 0 (by decide)).1, (h1.1 0 (by decide)).2.1, (h1.1 0 (by decide)).2.2.1, (h1.1 0 (by decide)).2.2.2⟩
theorem zs_1 {args : Array Value} {s : State} {A : Nat → Prop} (hgv : (Jvm.Cond.and given_1 narrow_1).before args s = true) (hA : ∀ a : Nat, a < s.heap.size → ¬ A a) : ∃ (a t : Nat), (Term.string "SagMemory$Tape" 90).eval args s none [] s = some (.ref a) ∧ va_O "java/lang/String" a A s s.heap ∧ va_OF "java/lang/String" "coder" "B" (.int 0) a A s s.heap ∧ va_OF "java/lang/String" "value" "[B" (.ref t) a A s s.heap ∧ va_T .byte t 3 (fun j => .int (([108, 97, 119] : List Int32).getD j 0)) A s s.heap := by
  have hn : narrow_1.before args s = true := zr_ hgv
  obtain ⟨adK, adV, h1, h2⟩ := vk_Sof (N := 1) (tm := fun _ => (Term.string "SagMemory$Tape" 90)) (len := [3]) (byt := [[108, 97, 119]]) (A := A) (args := args) (s := s) (fun i hi => by obtain rfl : i = 0 := (by omega); decide) (fun i hi => (zl_ (zl_ (zr_ (zl_ (zl_ (zl_ (zr_ (zl_ hn))))))))) (fun i hi => (zr_ (zl_ (zr_ (zl_ (zl_ (zl_ (zr_ (zl_ hn))))))))) (fun i hi => (zl_ (zr_ (zr_ (zl_ (zl_ (zl_ (zr_ (zl_ hn)))))))))
    (fun i hi => by obtain rfl : i = 0 := (by omega); exact (zr_ (zr_ (zr_ (zl_ (zl_ (zl_ (zr_ (zl_ hn)))))))))
    (fun i hi j hj => by
      obtain rfl : i = 0 := by omega
      have hj : j < 3 := hj
      rcases (show j = 0 ∨ j = 1 ∨ j = 2 by omega) with rfl | rfl | rfl
      · exact (zl_ (zl_ (zl_ (zr_ (zl_ (zl_ (zr_ (zl_ hn))))))))
      · exact (zr_ (zl_ (zl_ (zr_ (zl_ (zl_ (zr_ (zl_ hn))))))))
      · exact (zl_ (zr_ (zl_ (zr_ (zl_ (zl_ (zr_ (zl_ hn))))))))
    ) (fun i j hi hj hij => absurd (by omega) hij) hA
  exact ⟨adK 0, adV 0, h2 0 (by decide), (h1.1 0 (by decide)).1, (h1.1 0 (by decide)).2.1, (h1.1 0 (by decide)).2.2.1, (h1.1 0 (by decide)).2.2.2⟩
theorem zs_2 {args : Array Value} {s : State} {A : Nat → Prop} (hgv : (Jvm.Cond.and given_1 narrow_1).before args s = true) (hA : ∀ a : Nat, a < s.heap.size → ¬ A a) : ∃ (a t : Nat), (Term.string "SagMemory$Tape" 81).eval args s none [] s = some (.ref a) ∧ va_O "java/lang/String" a A s s.heap ∧ va_OF "java/lang/String" "coder" "B" (.int 0) a A s s.heap ∧ va_OF "java/lang/String" "value" "[B" (.ref t) a A s s.heap ∧ va_T .byte t 5 (fun j => .int (([102, 114, 111, 115, 116] : List Int32).getD j 0)) A s s.heap := by
  have hn : narrow_1.before args s = true := zr_ hgv
  obtain ⟨adK, adV, h1, h2⟩ := vk_Sof (N := 1) (tm := fun _ => (Term.string "SagMemory$Tape" 81)) (len := [5]) (byt := [[102, 114, 111, 115, 116]]) (A := A) (args := args) (s := s) (fun i hi => by obtain rfl : i = 0 := (by omega); decide) (fun i hi => (zl_ (zl_ (zr_ (zr_ (zl_ (zl_ (zr_ (zl_ hn))))))))) (fun i hi => (zr_ (zl_ (zr_ (zr_ (zl_ (zl_ (zr_ (zl_ hn))))))))) (fun i hi => (zl_ (zr_ (zr_ (zr_ (zl_ (zl_ (zr_ (zl_ hn)))))))))
    (fun i hi => by obtain rfl : i = 0 := (by omega); exact (zr_ (zr_ (zr_ (zr_ (zl_ (zl_ (zr_ (zl_ hn)))))))))
    (fun i hi j hj => by
      obtain rfl : i = 0 := by omega
      have hj : j < 5 := hj
      rcases (show j = 0 ∨ j = 1 ∨ j = 2 ∨ j = 3 ∨ j = 4 by omega) with rfl | rfl | rfl | rfl | rfl
      · exact (zl_ (zl_ (zl_ (zl_ (zr_ (zl_ (zr_ (zl_ hn))))))))
      · exact (zr_ (zl_ (zl_ (zl_ (zr_ (zl_ (zr_ (zl_ hn))))))))
      · exact (zl_ (zr_ (zl_ (zl_ (zr_ (zl_ (zr_ (zl_ hn))))))))
      · exact (zr_ (zr_ (zl_ (zl_ (zr_ (zl_ (zr_ (zl_ hn))))))))
      · exact (zl_ (zl_ (zr_ (zl_ (zr_ (zl_ (zr_ (zl_ hn))))))))
    ) (fun i j hi hj hij => absurd (by omega) hij) hA
  exact ⟨adK 0, adV 0, h2 0 (by decide), (h1.1 0 (by decide)).1, (h1.1 0 (by decide)).2.1, (h1.1 0 (by decide)).2.2.1, (h1.1 0 (by decide)).2.2.2⟩
theorem zs_3 {args : Array Value} {s : State} {A : Nat → Prop} (hgv : (Jvm.Cond.and given_1 narrow_1).before args s = true) (hA : ∀ a : Nat, a < s.heap.size → ¬ A a) : ∃ (a t : Nat), (Term.string "SagMemory$Tape" 103).eval args s none [] s = some (.ref a) ∧ va_O "java/lang/String" a A s s.heap ∧ va_OF "java/lang/String" "coder" "B" (.int 0) a A s s.heap ∧ va_OF "java/lang/String" "value" "[B" (.ref t) a A s s.heap ∧ va_T .byte t 4 (fun j => .int (([111, 100, 100, 115] : List Int32).getD j 0)) A s s.heap := by
  have hn : narrow_1.before args s = true := zr_ hgv
  obtain ⟨adK, adV, h1, h2⟩ := vk_Sof (N := 1) (tm := fun _ => (Term.string "SagMemory$Tape" 103)) (len := [4]) (byt := [[111, 100, 100, 115]]) (A := A) (args := args) (s := s) (fun i hi => by obtain rfl : i = 0 := (by omega); decide) (fun i hi => (zr_ (zr_ (zr_ (zl_ (zr_ (zl_ (zr_ (zl_ hn))))))))) (fun i hi => (zl_ (zl_ (zl_ (zr_ (zr_ (zl_ (zr_ (zl_ hn))))))))) (fun i hi => (zr_ (zl_ (zl_ (zr_ (zr_ (zl_ (zr_ (zl_ hn)))))))))
    (fun i hi => by obtain rfl : i = 0 := (by omega); exact (zl_ (zr_ (zl_ (zr_ (zr_ (zl_ (zr_ (zl_ hn)))))))))
    (fun i hi j hj => by
      obtain rfl : i = 0 := by omega
      have hj : j < 4 := hj
      rcases (show j = 0 ∨ j = 1 ∨ j = 2 ∨ j = 3 by omega) with rfl | rfl | rfl | rfl
      · exact (zr_ (zr_ (zl_ (zr_ (zr_ (zl_ (zr_ (zl_ hn))))))))
      · exact (zl_ (zl_ (zr_ (zr_ (zr_ (zl_ (zr_ (zl_ hn))))))))
      · exact (zr_ (zl_ (zr_ (zr_ (zr_ (zl_ (zr_ (zl_ hn))))))))
      · exact (zl_ (zr_ (zr_ (zr_ (zr_ (zl_ (zr_ (zl_ hn))))))))
    ) (fun i j hi hj hij => absurd (by omega) hij) hA
  exact ⟨adK 0, adV 0, h2 0 (by decide), (h1.1 0 (by decide)).1, (h1.1 0 (by decide)).2.1, (h1.1 0 (by decide)).2.2.1, (h1.1 0 (by decide)).2.2.2⟩
theorem zs_4 {args : Array Value} {s : State} {A : Nat → Prop} (hgv : (Jvm.Cond.and given_1 narrow_1).before args s = true) (hA : ∀ a : Nat, a < s.heap.size → ¬ A a) : ∃ (a t : Nat), (Term.string "SagMemory$Tape" 63).eval args s none [] s = some (.ref a) ∧ va_O "java/lang/String" a A s s.heap ∧ va_OF "java/lang/String" "coder" "B" (.int 0) a A s s.heap ∧ va_OF "java/lang/String" "value" "[B" (.ref t) a A s s.heap ∧ va_T .byte t 6 (fun j => .int (([98, 114, 105, 100, 103, 101] : List Int32).getD j 0)) A s s.heap := by
  have hn : narrow_1.before args s = true := zr_ hgv
  obtain ⟨adK, adV, h1, h2⟩ := vk_Sof (N := 1) (tm := fun _ => (Term.string "SagMemory$Tape" 63)) (len := [6]) (byt := [[98, 114, 105, 100, 103, 101]]) (A := A) (args := args) (s := s) (fun i hi => by obtain rfl : i = 0 := (by omega); decide) (fun i hi => (zl_ (zr_ (zl_ (zl_ (zl_ (zr_ (zr_ (zl_ hn))))))))) (fun i hi => (zr_ (zr_ (zl_ (zl_ (zl_ (zr_ (zr_ (zl_ hn))))))))) (fun i hi => (zl_ (zl_ (zr_ (zl_ (zl_ (zr_ (zr_ (zl_ hn)))))))))
    (fun i hi => by obtain rfl : i = 0 := (by omega); exact (zr_ (zl_ (zr_ (zl_ (zl_ (zr_ (zr_ (zl_ hn)))))))))
    (fun i hi j hj => by
      obtain rfl : i = 0 := by omega
      have hj : j < 6 := hj
      rcases (show j = 0 ∨ j = 1 ∨ j = 2 ∨ j = 3 ∨ j = 4 ∨ j = 5 by omega) with rfl | rfl | rfl | rfl | rfl | rfl
      · exact (zl_ (zr_ (zr_ (zl_ (zl_ (zr_ (zr_ (zl_ hn))))))))
      · exact (zr_ (zr_ (zr_ (zl_ (zl_ (zr_ (zr_ (zl_ hn))))))))
      · exact (zl_ (zl_ (zl_ (zr_ (zl_ (zr_ (zr_ (zl_ hn))))))))
      · exact (zr_ (zl_ (zl_ (zr_ (zl_ (zr_ (zr_ (zl_ hn))))))))
      · exact (zl_ (zr_ (zl_ (zr_ (zl_ (zr_ (zr_ (zl_ hn))))))))
      · exact (zr_ (zr_ (zl_ (zr_ (zl_ (zr_ (zr_ (zl_ hn))))))))
    ) (fun i j hi hj hij => absurd (by omega) hij) hA
  exact ⟨adK 0, adV 0, h2 0 (by decide), (h1.1 0 (by decide)).1, (h1.1 0 (by decide)).2.1, (h1.1 0 (by decide)).2.2.1, (h1.1 0 (by decide)).2.2.2⟩
theorem zs_5 {args : Array Value} {s : State} {A : Nat → Prop} (hgv : (Jvm.Cond.and given_1 narrow_1).before args s = true) (hA : ∀ a : Nat, a < s.heap.size → ¬ A a) : ∃ (a t : Nat), (Term.string "SagMemory$Tape" 110).eval args s none [] s = some (.ref a) ∧ va_O "java/lang/String" a A s s.heap ∧ va_OF "java/lang/String" "coder" "B" (.int 0) a A s s.heap ∧ va_OF "java/lang/String" "value" "[B" (.ref t) a A s s.heap ∧ va_T .byte t 5 (fun j => .int (([104, 111, 108, 100, 115] : List Int32).getD j 0)) A s s.heap := by
  have hn : narrow_1.before args s = true := zr_ hgv
  obtain ⟨adK, adV, h1, h2⟩ := vk_Sof (N := 1) (tm := fun _ => (Term.string "SagMemory$Tape" 110)) (len := [5]) (byt := [[104, 111, 108, 100, 115]]) (A := A) (args := args) (s := s) (fun i hi => by obtain rfl : i = 0 := (by omega); decide) (fun i hi => (zl_ (zl_ (zl_ (zl_ (zr_ (zr_ (zr_ (zl_ hn))))))))) (fun i hi => (zr_ (zl_ (zl_ (zl_ (zr_ (zr_ (zr_ (zl_ hn))))))))) (fun i hi => (zl_ (zr_ (zl_ (zl_ (zr_ (zr_ (zr_ (zl_ hn)))))))))
    (fun i hi => by obtain rfl : i = 0 := (by omega); exact (zr_ (zr_ (zl_ (zl_ (zr_ (zr_ (zr_ (zl_ hn)))))))))
    (fun i hi j hj => by
      obtain rfl : i = 0 := by omega
      have hj : j < 5 := hj
      rcases (show j = 0 ∨ j = 1 ∨ j = 2 ∨ j = 3 ∨ j = 4 by omega) with rfl | rfl | rfl | rfl | rfl
      · exact (zl_ (zl_ (zr_ (zl_ (zr_ (zr_ (zr_ (zl_ hn))))))))
      · exact (zr_ (zl_ (zr_ (zl_ (zr_ (zr_ (zr_ (zl_ hn))))))))
      · exact (zl_ (zr_ (zr_ (zl_ (zr_ (zr_ (zr_ (zl_ hn))))))))
      · exact (zr_ (zr_ (zr_ (zl_ (zr_ (zr_ (zr_ (zl_ hn))))))))
      · exact (zl_ (zl_ (zl_ (zr_ (zr_ (zr_ (zr_ (zl_ hn))))))))
    ) (fun i j hi hj hij => absurd (by omega) hij) hA
  exact ⟨adK 0, adV 0, h2 0 (by decide), (h1.1 0 (by decide)).1, (h1.1 0 (by decide)).2.1, (h1.1 0 (by decide)).2.2.1, (h1.1 0 (by decide)).2.2.2⟩
theorem zs_6 {args : Array Value} {s : State} {A : Nat → Prop} (hgv : (Jvm.Cond.and given_1 narrow_1).before args s = true) (hA : ∀ a : Nat, a < s.heap.size → ¬ A a) : ∃ (a t : Nat), (Term.string "SagMemory$Tape" 114).eval args s none [] s = some (.ref a) ∧ va_O "java/lang/String" a A s s.heap ∧ va_OF "java/lang/String" "coder" "B" (.int 0) a A s s.heap ∧ va_OF "java/lang/String" "value" "[B" (.ref t) a A s s.heap ∧ va_T .byte t 4 (fun j => .int (([116, 111, 108, 108] : List Int32).getD j 0)) A s s.heap := by
  have hn : narrow_1.before args s = true := zr_ hgv
  obtain ⟨adK, adV, h1, h2⟩ := vk_Sof (N := 1) (tm := fun _ => (Term.string "SagMemory$Tape" 114)) (len := [4]) (byt := [[116, 111, 108, 108]]) (A := A) (args := args) (s := s) (fun i hi => by obtain rfl : i = 0 := (by omega); decide) (fun i hi => (zl_ (zr_ (zr_ (zr_ (zr_ (zr_ (zr_ (zl_ hn))))))))) (fun i hi => (zl_ (zr_ (zr_ (zr_ (zr_ (zr_ (zr_ (zr_ (zl_ hn)))))))))) (fun i hi => (zr_ (zr_ (zr_ (zr_ (zr_ (zr_ (zr_ (zr_ (zl_ hn))))))))))
    (fun i hi => by obtain rfl : i = 0 := (by omega); exact (zl_ (zl_ (zl_ (zl_ (zl_ (zl_ (zl_ (zr_ hn)))))))))
    (fun i hi j hj => by
      obtain rfl : i = 0 := by omega
      have hj : j < 4 := hj
      rcases (show j = 0 ∨ j = 1 ∨ j = 2 ∨ j = 3 by omega) with rfl | rfl | rfl | rfl
      · exact (zr_ (zl_ (zl_ (zl_ (zl_ (zl_ (zl_ (zr_ hn))))))))
      · exact (zl_ (zr_ (zl_ (zl_ (zl_ (zl_ (zl_ (zr_ hn))))))))
      · exact (zr_ (zr_ (zl_ (zl_ (zl_ (zl_ (zl_ (zr_ hn))))))))
      · exact (zl_ (zl_ (zr_ (zl_ (zl_ (zl_ (zl_ (zr_ hn))))))))
    ) (fun i j hi hj hij => absurd (by omega) hij) hA
  exact ⟨adK 0, adV 0, h2 0 (by decide), (h1.1 0 (by decide)).1, (h1.1 0 (by decide)).2.1, (h1.1 0 (by decide)).2.2.1, (h1.1 0 (by decide)).2.2.2⟩
theorem zs_7 {args : Array Value} {s : State} {A : Nat → Prop} (hgv : (Jvm.Cond.and given_1 narrow_1).before args s = true) (hA : ∀ a : Nat, a < s.heap.size → ¬ A a) : ∃ (a t : Nat), (Term.string "SagMemory$Tape" 71).eval args s none [] s = some (.ref a) ∧ va_O "java/lang/String" a A s s.heap ∧ va_OF "java/lang/String" "coder" "B" (.int 0) a A s s.heap ∧ va_OF "java/lang/String" "value" "[B" (.ref t) a A s s.heap ∧ va_T .byte t 4 (fun j => .int (([99, 97, 114, 116] : List Int32).getD j 0)) A s s.heap := by
  have hn : narrow_1.before args s = true := zr_ hgv
  obtain ⟨adK, adV, h1, h2⟩ := vk_Sof (N := 1) (tm := fun _ => (Term.string "SagMemory$Tape" 71)) (len := [4]) (byt := [[99, 97, 114, 116]]) (A := A) (args := args) (s := s) (fun i hi => by obtain rfl : i = 0 := (by omega); decide) (fun i hi => (zr_ (zr_ (zl_ (zr_ (zl_ (zl_ (zl_ (zr_ hn))))))))) (fun i hi => (zl_ (zl_ (zr_ (zr_ (zl_ (zl_ (zl_ (zr_ hn))))))))) (fun i hi => (zr_ (zl_ (zr_ (zr_ (zl_ (zl_ (zl_ (zr_ hn)))))))))
    (fun i hi => by obtain rfl : i = 0 := (by omega); exact (zl_ (zr_ (zr_ (zr_ (zl_ (zl_ (zl_ (zr_ hn)))))))))
    (fun i hi j hj => by
      obtain rfl : i = 0 := by omega
      have hj : j < 4 := hj
      rcases (show j = 0 ∨ j = 1 ∨ j = 2 ∨ j = 3 by omega) with rfl | rfl | rfl | rfl
      · exact (zr_ (zr_ (zr_ (zr_ (zl_ (zl_ (zl_ (zr_ hn))))))))
      · exact (zl_ (zl_ (zl_ (zl_ (zr_ (zl_ (zl_ (zr_ hn))))))))
      · exact (zr_ (zl_ (zl_ (zl_ (zr_ (zl_ (zl_ (zr_ hn))))))))
      · exact (zl_ (zr_ (zl_ (zl_ (zr_ (zl_ (zl_ (zr_ hn))))))))
    ) (fun i j hi hj hij => absurd (by omega) hij) hA
  exact ⟨adK 0, adV 0, h2 0 (by decide), (h1.1 0 (by decide)).1, (h1.1 0 (by decide)).2.1, (h1.1 0 (by decide)).2.2.1, (h1.1 0 (by decide)).2.2.2⟩
theorem zs_8 {args : Array Value} {s : State} {A : Nat → Prop} (hgv : (Jvm.Cond.and given_1 narrow_1).before args s = true) (hA : ∀ a : Nat, a < s.heap.size → ¬ A a) : ∃ (a t : Nat), (Term.string "SagMemory$Tape" 125).eval args s none [] s = some (.ref a) ∧ va_O "java/lang/String" a A s s.heap ∧ va_OF "java/lang/String" "coder" "B" (.int 0) a A s s.heap ∧ va_OF "java/lang/String" "value" "[B" (.ref t) a A s s.heap ∧ va_T .byte t 2 (fun j => .int (([98, 121] : List Int32).getD j 0)) A s s.heap := by
  have hn : narrow_1.before args s = true := zr_ hgv
  obtain ⟨adK, adV, h1, h2⟩ := vk_Sof (N := 1) (tm := fun _ => (Term.string "SagMemory$Tape" 125)) (len := [2]) (byt := [[98, 121]]) (A := A) (args := args) (s := s) (fun i hi => by obtain rfl : i = 0 := (by omega); decide) (fun i hi => (zl_ (zr_ (zl_ (zr_ (zr_ (zl_ (zl_ (zr_ hn))))))))) (fun i hi => (zr_ (zr_ (zl_ (zr_ (zr_ (zl_ (zl_ (zr_ hn))))))))) (fun i hi => (zl_ (zl_ (zr_ (zr_ (zr_ (zl_ (zl_ (zr_ hn)))))))))
    (fun i hi => by obtain rfl : i = 0 := (by omega); exact (zr_ (zl_ (zr_ (zr_ (zr_ (zl_ (zl_ (zr_ hn)))))))))
    (fun i hi j hj => by
      obtain rfl : i = 0 := by omega
      have hj : j < 2 := hj
      rcases (show j = 0 ∨ j = 1 by omega) with rfl | rfl
      · exact (zl_ (zr_ (zr_ (zr_ (zr_ (zl_ (zl_ (zr_ hn))))))))
      · exact (zr_ (zr_ (zr_ (zr_ (zr_ (zl_ (zl_ (zr_ hn))))))))
    ) (fun i j hi hj hij => absurd (by omega) hij) hA
  exact ⟨adK 0, adV 0, h2 0 (by decide), (h1.1 0 (by decide)).1, (h1.1 0 (by decide)).2.1, (h1.1 0 (by decide)).2.2.1, (h1.1 0 (by decide)).2.2.2⟩
theorem zs_9 {args : Array Value} {s : State} {A : Nat → Prop} (hgv : (Jvm.Cond.and given_1 narrow_1).before args s = true) (hA : ∀ a : Nat, a < s.heap.size → ¬ A a) : ∃ (a t : Nat), (Term.string "SagMemory$Tape" 76).eval args s none [] s = some (.ref a) ∧ va_O "java/lang/String" a A s s.heap ∧ va_OF "java/lang/String" "coder" "B" (.int 0) a A s s.heap ∧ va_OF "java/lang/String" "value" "[B" (.ref t) a A s s.heap ∧ va_T .byte t 4 (fun j => .int (([119, 97, 114, 100] : List Int32).getD j 0)) A s s.heap := by
  have hn : narrow_1.before args s = true := zr_ hgv
  obtain ⟨adK, adV, h1, h2⟩ := vk_Sof (N := 1) (tm := fun _ => (Term.string "SagMemory$Tape" 76)) (len := [4]) (byt := [[119, 97, 114, 100]]) (A := A) (args := args) (s := s) (fun i hi => by obtain rfl : i = 0 := (by omega); decide) (fun i hi => (zl_ (zl_ (zl_ (zr_ (zl_ (zr_ (zl_ (zr_ hn))))))))) (fun i hi => (zr_ (zl_ (zl_ (zr_ (zl_ (zr_ (zl_ (zr_ hn))))))))) (fun i hi => (zl_ (zr_ (zl_ (zr_ (zl_ (zr_ (zl_ (zr_ hn)))))))))
    (fun i hi => by obtain rfl : i = 0 := (by omega); exact (zr_ (zr_ (zl_ (zr_ (zl_ (zr_ (zl_ (zr_ hn)))))))))
    (fun i hi j hj => by
      obtain rfl : i = 0 := by omega
      have hj : j < 4 := hj
      rcases (show j = 0 ∨ j = 1 ∨ j = 2 ∨ j = 3 by omega) with rfl | rfl | rfl | rfl
      · exact (zl_ (zl_ (zr_ (zr_ (zl_ (zr_ (zl_ (zr_ hn))))))))
      · exact (zr_ (zl_ (zr_ (zr_ (zl_ (zr_ (zl_ (zr_ hn))))))))
      · exact (zl_ (zr_ (zr_ (zr_ (zl_ (zr_ (zl_ (zr_ hn))))))))
      · exact (zr_ (zr_ (zr_ (zr_ (zl_ (zr_ (zl_ (zr_ hn))))))))
    ) (fun i j hi hj hij => absurd (by omega) hij) hA
  exact ⟨adK 0, adV 0, h2 0 (by decide), (h1.1 0 (by decide)).1, (h1.1 0 (by decide)).2.1, (h1.1 0 (by decide)).2.2.1, (h1.1 0 (by decide)).2.2.2⟩
theorem zs_10 {args : Array Value} {s : State} {A : Nat → Prop} (hgv : (Jvm.Cond.and given_1 narrow_1).before args s = true) (hA : ∀ a : Nat, a < s.heap.size → ¬ A a) : ∃ (a t : Nat), (Term.string "SagMemory$Tape" 136).eval args s none [] s = some (.ref a) ∧ va_O "java/lang/String" a A s s.heap ∧ va_OF "java/lang/String" "coder" "B" (.int 0) a A s s.heap ∧ va_OF "java/lang/String" "value" "[B" (.ref t) a A s s.heap ∧ va_T .byte t 4 (fun j => .int (([111, 118, 101, 114] : List Int32).getD j 0)) A s s.heap := by
  have hn : narrow_1.before args s = true := zr_ hgv
  obtain ⟨adK, adV, h1, h2⟩ := vk_Sof (N := 1) (tm := fun _ => (Term.string "SagMemory$Tape" 136)) (len := [4]) (byt := [[111, 118, 101, 114]]) (A := A) (args := args) (s := s) (fun i hi => by obtain rfl : i = 0 := (by omega); decide) (fun i hi => (zr_ (zl_ (zl_ (zr_ (zr_ (zr_ (zl_ (zr_ hn))))))))) (fun i hi => (zl_ (zr_ (zl_ (zr_ (zr_ (zr_ (zl_ (zr_ hn))))))))) (fun i hi => (zr_ (zr_ (zl_ (zr_ (zr_ (zr_ (zl_ (zr_ hn)))))))))
    (fun i hi => by obtain rfl : i = 0 := (by omega); exact (zl_ (zl_ (zr_ (zr_ (zr_ (zr_ (zl_ (zr_ hn)))))))))
    (fun i hi j hj => by
      obtain rfl : i = 0 := by omega
      have hj : j < 4 := hj
      rcases (show j = 0 ∨ j = 1 ∨ j = 2 ∨ j = 3 by omega) with rfl | rfl | rfl | rfl
      · exact (zr_ (zl_ (zr_ (zr_ (zr_ (zr_ (zl_ (zr_ hn))))))))
      · exact (zl_ (zr_ (zr_ (zr_ (zr_ (zr_ (zl_ (zr_ hn))))))))
      · exact (zl_ (zr_ (zr_ (zr_ (zr_ (zr_ (zr_ (zl_ (zr_ hn)))))))))
      · exact (zr_ (zr_ (zr_ (zr_ (zr_ (zr_ (zr_ (zl_ (zr_ hn)))))))))
    ) (fun i j hi hj hij => absurd (by omega) hij) hA
  exact ⟨adK 0, adV 0, h2 0 (by decide), (h1.1 0 (by decide)).1, (h1.1 0 (by decide)).2.1, (h1.1 0 (by decide)).2.2.1, (h1.1 0 (by decide)).2.2.2⟩
theorem zs_11 {args : Array Value} {s : State} {A : Nat → Prop} (hgv : (Jvm.Cond.and given_1 narrow_1).before args s = true) (hA : ∀ a : Nat, a < s.heap.size → ¬ A a) : ∃ (a t : Nat), (Term.string "SagMemory$Tape" 141).eval args s none [] s = some (.ref a) ∧ va_O "java/lang/String" a A s s.heap ∧ va_OF "java/lang/String" "coder" "B" (.int 0) a A s s.heap ∧ va_OF "java/lang/String" "value" "[B" (.ref t) a A s s.heap ∧ va_T .byte t 2 (fun j => .int (([116, 111] : List Int32).getD j 0)) A s s.heap := by
  have hn : narrow_1.before args s = true := zr_ hgv
  obtain ⟨adK, adV, h1, h2⟩ := vk_Sof (N := 1) (tm := fun _ => (Term.string "SagMemory$Tape" 141)) (len := [2]) (byt := [[116, 111]]) (A := A) (args := args) (s := s) (fun i hi => by obtain rfl : i = 0 := (by omega); decide) (fun i hi => (zl_ (zr_ (zl_ (zr_ (zl_ (zl_ (zr_ (zr_ hn))))))))) (fun i hi => (zr_ (zr_ (zl_ (zr_ (zl_ (zl_ (zr_ (zr_ hn))))))))) (fun i hi => (zl_ (zl_ (zr_ (zr_ (zl_ (zl_ (zr_ (zr_ hn)))))))))
    (fun i hi => by obtain rfl : i = 0 := (by omega); exact (zr_ (zl_ (zr_ (zr_ (zl_ (zl_ (zr_ (zr_ hn)))))))))
    (fun i hi j hj => by
      obtain rfl : i = 0 := by omega
      have hj : j < 2 := hj
      rcases (show j = 0 ∨ j = 1 by omega) with rfl | rfl
      · exact (zl_ (zr_ (zr_ (zr_ (zl_ (zl_ (zr_ (zr_ hn))))))))
      · exact (zr_ (zr_ (zr_ (zr_ (zl_ (zl_ (zr_ (zr_ hn))))))))
    ) (fun i j hi hj hij => absurd (by omega) hij) hA
  exact ⟨adK 0, adV 0, h2 0 (by decide), (h1.1 0 (by decide)).1, (h1.1 0 (by decide)).2.1, (h1.1 0 (by decide)).2.2.1, (h1.1 0 (by decide)).2.2.2⟩
theorem zs_12 {args : Array Value} {s : State} {A : Nat → Prop} (hgv : (Jvm.Cond.and given_1 narrow_1).before args s = true) (hA : ∀ a : Nat, a < s.heap.size → ¬ A a) : ∃ (a t : Nat), (Term.string "SagMemory$Tape" 143).eval args s none [] s = some (.ref a) ∧ va_O "java/lang/String" a A s s.heap ∧ va_OF "java/lang/String" "coder" "B" (.int 0) a A s s.heap ∧ va_OF "java/lang/String" "value" "[B" (.ref t) a A s s.heap ∧ va_T .byte t 4 (fun j => .int (([104, 97, 108, 116] : List Int32).getD j 0)) A s s.heap := by
  have hn : narrow_1.before args s = true := zr_ hgv
  obtain ⟨adK, adV, h1, h2⟩ := vk_Sof (N := 1) (tm := fun _ => (Term.string "SagMemory$Tape" 143)) (len := [4]) (byt := [[104, 97, 108, 116]]) (A := A) (args := args) (s := s) (fun i hi => by obtain rfl : i = 0 := (by omega); decide) (fun i hi => (zr_ (zr_ (zl_ (zr_ (zr_ (zl_ (zr_ (zr_ hn))))))))) (fun i hi => (zl_ (zl_ (zr_ (zr_ (zr_ (zl_ (zr_ (zr_ hn))))))))) (fun i hi => (zr_ (zl_ (zr_ (zr_ (zr_ (zl_ (zr_ (zr_ hn)))))))))
    (fun i hi => by obtain rfl : i = 0 := (by omega); exact (zl_ (zr_ (zr_ (zr_ (zr_ (zl_ (zr_ (zr_ hn)))))))))
    (fun i hi j hj => by
      obtain rfl : i = 0 := by omega
      have hj : j < 4 := hj
      rcases (show j = 0 ∨ j = 1 ∨ j = 2 ∨ j = 3 by omega) with rfl | rfl | rfl | rfl
      · exact (zl_ (zr_ (zr_ (zr_ (zr_ (zr_ (zl_ (zr_ (zr_ hn)))))))))
      · exact (zr_ (zr_ (zr_ (zr_ (zr_ (zr_ (zl_ (zr_ (zr_ hn)))))))))
      · exact (zl_ (zl_ (zl_ (zl_ (zl_ (zr_ (zr_ (zr_ hn))))))))
      · exact (zr_ (zl_ (zl_ (zl_ (zl_ (zr_ (zr_ (zr_ hn))))))))
    ) (fun i j hi hj hij => absurd (by omega) hij) hA
  exact ⟨adK 0, adV 0, h2 0 (by decide), (h1.1 0 (by decide)).1, (h1.1 0 (by decide)).2.1, (h1.1 0 (by decide)).2.2.1, (h1.1 0 (by decide)).2.2.2⟩
theorem zs_13 {args : Array Value} {s : State} {A : Nat → Prop} (hgv : (Jvm.Cond.and given_1 narrow_1).before args s = true) (hA : ∀ a : Nat, a < s.heap.size → ¬ A a) : ∃ (a t : Nat), (Term.string "SagMemory$Tape" 157).eval args s none [] s = some (.ref a) ∧ va_O "java/lang/String" a A s s.heap ∧ va_OF "java/lang/String" "coder" "B" (.int 0) a A s s.heap ∧ va_OF "java/lang/String" "value" "[B" (.ref t) a A s s.heap ∧ va_T .byte t 2 (fun j => .int (([97, 116] : List Int32).getD j 0)) A s s.heap := by
  have hn : narrow_1.before args s = true := zr_ hgv
  obtain ⟨adK, adV, h1, h2⟩ := vk_Sof (N := 1) (tm := fun _ => (Term.string "SagMemory$Tape" 157)) (len := [2]) (byt := [[97, 116]]) (A := A) (args := args) (s := s) (fun i hi => by obtain rfl : i = 0 := (by omega); decide) (fun i hi => (zl_ (zr_ (zr_ (zr_ (zl_ (zr_ (zr_ (zr_ hn))))))))) (fun i hi => (zr_ (zr_ (zr_ (zr_ (zl_ (zr_ (zr_ (zr_ hn))))))))) (fun i hi => (zl_ (zl_ (zl_ (zl_ (zr_ (zr_ (zr_ (zr_ hn)))))))))
    (fun i hi => by obtain rfl : i = 0 := (by omega); exact (zr_ (zl_ (zl_ (zl_ (zr_ (zr_ (zr_ (zr_ hn)))))))))
    (fun i hi j hj => by
      obtain rfl : i = 0 := by omega
      have hj : j < 2 := hj
      rcases (show j = 0 ∨ j = 1 by omega) with rfl | rfl
      · exact (zl_ (zr_ (zl_ (zl_ (zr_ (zr_ (zr_ (zr_ hn))))))))
      · exact (zr_ (zr_ (zl_ (zl_ (zr_ (zr_ (zr_ (zr_ hn))))))))
    ) (fun i j hi hj hij => absurd (by omega) hij) hA
  exact ⟨adK 0, adV 0, h2 0 (by decide), (h1.1 0 (by decide)).1, (h1.1 0 (by decide)).2.1, (h1.1 0 (by decide)).2.2.1, (h1.1 0 (by decide)).2.2.2⟩
theorem zt_of {args : Array Value} {s : State} {A : Nat → Prop} (hts : ∀ w ∈ lw_tbl, w.before args s = true) (hgv : (Jvm.Cond.and given_1 narrow_1).before args s = true) (hA : ∀ a : Nat, a < s.heap.size → ¬ A a) : ∃ (adK adV ln : Nat → Nat) (by9 : Nat → Nat → Int32), Zt adK adV ln by9 A s s.heap := by
  have hn : narrow_1.before args s = true := zr_ hgv
  obtain ⟨a0, t0, e0, o0, c0, v0, T0⟩ := zs_0 (A := A) hgv hA
  obtain ⟨a1, t1, e1, o1, c1, v1, T1⟩ := zs_1 (A := A) hgv hA
  obtain ⟨a2, t2, e2, o2, c2, v2, T2⟩ := zs_2 (A := A) hgv hA
  obtain ⟨a3, t3, e3, o3, c3, v3, T3⟩ := zs_3 (A := A) hgv hA
  obtain ⟨a4, t4, e4, o4, c4, v4, T4⟩ := zs_4 (A := A) hgv hA
  obtain ⟨a5, t5, e5, o5, c5, v5, T5⟩ := zs_5 (A := A) hgv hA
  obtain ⟨a6, t6, e6, o6, c6, v6, T6⟩ := zs_6 (A := A) hgv hA
  obtain ⟨a7, t7, e7, o7, c7, v7, T7⟩ := zs_7 (A := A) hgv hA
  obtain ⟨a8, t8, e8, o8, c8, v8, T8⟩ := zs_8 (A := A) hgv hA
  obtain ⟨a9, t9, e9, o9, c9, v9, T9⟩ := zs_9 (A := A) hgv hA
  obtain ⟨a10, t10, e10, o10, c10, v10, T10⟩ := zs_10 (A := A) hgv hA
  obtain ⟨a11, t11, e11, o11, c11, v11, T11⟩ := zs_11 (A := A) hgv hA
  obtain ⟨a12, t12, e12, o12, c12, v12, T12⟩ := zs_12 (A := A) hgv hA
  obtain ⟨a13, t13, e13, o13, c13, v13, T13⟩ := zs_13 (A := A) hgv hA
  refine ⟨(fun i => (cond (Nat.ble 7 i) (cond (Nat.ble 10 i) (cond (Nat.ble 12 i) (cond (Nat.ble 13 i) a13 a12) (cond (Nat.ble 11 i) a11 a10)) (cond (Nat.ble 8 i) (cond (Nat.ble 9 i) a9 a8) a7)) (cond (Nat.ble 3 i) (cond (Nat.ble 5 i) (cond (Nat.ble 6 i) a6 a5) (cond (Nat.ble 4 i) a4 a3)) (cond (Nat.ble 1 i) (cond (Nat.ble 2 i) a2 a1) a0)))), (fun i => (cond (Nat.ble 7 i) (cond (Nat.ble 10 i) (cond (Nat.ble 12 i) (cond (Nat.ble 13 i) t13 t12) (cond (Nat.ble 11 i) t11 t10)) (cond (Nat.ble 8 i) (cond (Nat.ble 9 i) t9 t8) t7)) (cond (Nat.ble 3 i) (cond (Nat.ble 5 i) (cond (Nat.ble 6 i) t6 t5) (cond (Nat.ble 4 i) t4 t3)) (cond (Nat.ble 1 i) (cond (Nat.ble 2 i) t2 t1) t0)))), (fun i => (cond (Nat.ble 7 i) (cond (Nat.ble 10 i) (cond (Nat.ble 12 i) (cond (Nat.ble 13 i) 2 4) (cond (Nat.ble 11 i) 2 4)) (cond (Nat.ble 8 i) (cond (Nat.ble 9 i) 4 2) 4)) (cond (Nat.ble 3 i) (cond (Nat.ble 5 i) (cond (Nat.ble 6 i) 4 5) (cond (Nat.ble 4 i) 6 4)) (cond (Nat.ble 1 i) (cond (Nat.ble 2 i) 5 3) 6)))), fun i j => List.getD ((fun i => (cond (Nat.ble 7 i) (cond (Nat.ble 10 i) (cond (Nat.ble 12 i) (cond (Nat.ble 13 i) ([97, 116] : List Int32) ([104, 97, 108, 116] : List Int32)) (cond (Nat.ble 11 i) ([116, 111] : List Int32) ([111, 118, 101, 114] : List Int32))) (cond (Nat.ble 8 i) (cond (Nat.ble 9 i) ([119, 97, 114, 100] : List Int32) ([98, 121] : List Int32)) ([99, 97, 114, 116] : List Int32))) (cond (Nat.ble 3 i) (cond (Nat.ble 5 i) (cond (Nat.ble 6 i) ([116, 111, 108, 108] : List Int32) ([104, 111, 108, 100, 115] : List Int32)) (cond (Nat.ble 4 i) ([98, 114, 105, 100, 103, 101] : List Int32) ([111, 100, 100, 115] : List Int32))) (cond (Nat.ble 1 i) (cond (Nat.ble 2 i) ([102, 114, 111, 115, 116] : List Int32) ([108, 97, 119] : List Int32)) ([118, 97, 108, 108, 101, 121] : List Int32))))) i) j 0, ?_, ?_, ?_, ?_⟩
  · intro i hi
    rcases (show i = 0 ∨ i = 1 ∨ i = 2 ∨ i = 3 ∨ i = 4 ∨ i = 5 ∨ i = 6 ∨ i = 7 ∨ i = 8 ∨ i = 9 ∨ i = 10 ∨ i = 11 ∨ i = 12 ∨ i = 13 by omega) with rfl | rfl | rfl | rfl | rfl | rfl | rfl | rfl | rfl | rfl | rfl | rfl | rfl | rfl
    · exact ⟨o0, c0, v0, T0, by decide⟩
    · exact ⟨o1, c1, v1, T1, by decide⟩
    · exact ⟨o2, c2, v2, T2, by decide⟩
    · exact ⟨o3, c3, v3, T3, by decide⟩
    · exact ⟨o4, c4, v4, T4, by decide⟩
    · exact ⟨o5, c5, v5, T5, by decide⟩
    · exact ⟨o6, c6, v6, T6, by decide⟩
    · exact ⟨o7, c7, v7, T7, by decide⟩
    · exact ⟨o8, c8, v8, T8, by decide⟩
    · exact ⟨o9, c9, v9, T9, by decide⟩
    · exact ⟨o10, c10, v10, T10, by decide⟩
    · exact ⟨o11, c11, v11, T11, by decide⟩
    · exact ⟨o12, c12, v12, T12, by decide⟩
    · exact ⟨o13, c13, v13, T13, by decide⟩
  · exact va_Zof (hts (.laysStatic "java/lang/String" "COMPACT_STRINGS" "Z") tw_1844) (hts (.initialized "java/lang/String") tw_1845) (va_eqi (zl_ (zr_ (zl_ (zl_ (zl_ (zl_ (zl_ (zl_ hn))))))))) hA
  · exact va_Zqof (hts (.laysStatic "jdk/internal/util/Preconditions" "SIOOBE_FORMATTER" "Ljava/util/function/BiFunction;") tw_1846) (hts (.initialized "jdk/internal/util/Preconditions") tw_1847) (zr_ (zr_ (zl_ (zl_ (zl_ (zl_ (zl_ (zl_ hn)))))))) hA
  · intro i hi
    rcases (show i = 0 ∨ i = 1 ∨ i = 2 ∨ i = 3 ∨ i = 4 ∨ i = 5 ∨ i = 6 ∨ i = 7 ∨ i = 8 ∨ i = 9 ∨ i = 10 ∨ i = 11 ∨ i = 12 ∨ i = 13 by omega) with rfl | rfl | rfl | rfl | rfl | rfl | rfl | rfl | rfl | rfl | rfl | rfl | rfl | rfl
    · exact vk_R.of (hts (.stringRef "SagMemory$Tape" 51 "valley") tw_1830) e0
    · exact vk_R.of (hts (.stringRef "SagMemory$Tape" 90 "law") tw_1831) e1
    · exact vk_R.of (hts (.stringRef "SagMemory$Tape" 81 "frost") tw_1832) e2
    · exact vk_R.of (hts (.stringRef "SagMemory$Tape" 103 "odds") tw_1833) e3
    · exact vk_R.of (hts (.stringRef "SagMemory$Tape" 63 "bridge") tw_1834) e4
    · exact vk_R.of (hts (.stringRef "SagMemory$Tape" 110 "holds") tw_1835) e5
    · exact vk_R.of (hts (.stringRef "SagMemory$Tape" 114 "toll") tw_1836) e6
    · exact vk_R.of (hts (.stringRef "SagMemory$Tape" 71 "cart") tw_1837) e7
    · exact vk_R.of (hts (.stringRef "SagMemory$Tape" 125 "by") tw_1838) e8
    · exact vk_R.of (hts (.stringRef "SagMemory$Tape" 76 "ward") tw_1839) e9
    · exact vk_R.of (hts (.stringRef "SagMemory$Tape" 136 "over") tw_1840) e10
    · exact vk_R.of (hts (.stringRef "SagMemory$Tape" 141 "to") tw_1841) e11
    · exact vk_R.of (hts (.stringRef "SagMemory$Tape" 143 "halt") tw_1842) e12
    · exact vk_R.of (hts (.stringRef "SagMemory$Tape" 157 "at") tw_1843) e13
theorem ak_of {args : Array Value} {s : State} {ty : FieldType} (h : (Cond.arrayClass ty).before args s = true) : ∃ cA : ClassId, ArrOfT s cA ty ∧ s.vm.findClass ("[" ++ ty.toString) = some cA := by
  obtain ⟨cA, kA, comp, h1, h2, h3⟩ := Cond.arrayClass_spec h
  exact ⟨cA, fun n z => ⟨fun k h => (by cases h), kA, h2, comp, h3⟩, h1⟩
theorem ao_of {s : State} {C : String} (h : va_AO C s) : ∃ cA : ClassId, ArrOfT s cA (.object C) ∧ va_RA s cA (.object C) := by
  obtain ⟨comp, c, k, h1, h2, h3, h4, h5⟩ := Cond.arrayOver_spec h
  exact ⟨c, fun n z => ⟨fun k h => (by cases h), k, h3, comp, h4⟩, k, comp, h3, h4, h1, h5⟩
theorem tk_of {args : Array Value} {s : State} {dC : Nat → ClassId} {dI : Nat → Nat → Nat} (hts : ∀ w ∈ lw_tbl, w.before args s = true) (hN : Nx s) (h0 : va_K (dC, dI) vwCl [] s) : ∃ k : Nat → ClassId, va_K (dC, dI) vwCl (tK k) s := by
  obtain ⟨k0, a0, f0⟩ := ak_of (hts (.arrayClass .int) tw_1307)
  obtain ⟨k1, a1, f1⟩ := ak_of (hts (.arrayClass .long) tw_1322)
  obtain ⟨k2, a2, f2⟩ := ak_of (hts (.arrayClass .byte) tw_1378)
  obtain ⟨k3, a3, f3⟩ := ak_of (hts (.arrayClass .boolean) tw_1377)
  obtain ⟨k4, a4, f4⟩ := ao_of (Nx_ao_RX2 hN)
  obtain ⟨k5, a5, f5⟩ := ao_of (Nx_ao_RX7 hN)
  obtain ⟨k6, a6, f6⟩ := ao_of (Nx_ao_RX6 hN)
  obtain ⟨k7, a7, f7⟩ := ao_of (Nx_ao_RX1 hN)
  refine ⟨(fun i => (cond (Nat.ble 4 i) (cond (Nat.ble 6 i) (cond (Nat.ble 7 i) k7 k6) (cond (Nat.ble 5 i) k5 k4)) (cond (Nat.ble 2 i) (cond (Nat.ble 3 i) k3 k2) (cond (Nat.ble 1 i) k1 k0)))), h0.1, fun k q hq => ?_⟩
  match k, hq with
  | 0, hq => cases hq; exact ⟨a0, f0⟩
  | 1, hq => cases hq; exact ⟨a1, f1⟩
  | 2, hq => cases hq; exact ⟨a2, f2⟩
  | 3, hq => cases hq; exact ⟨a3, f3⟩
  | 4, hq => cases hq; exact ⟨a4, f4⟩
  | 5, hq => cases hq; exact ⟨a5, f5⟩
  | 6, hq => cases hq; exact ⟨a6, f6⟩
  | 7, hq => cases hq; exact ⟨a7, f7⟩
  | k + 8, hq => simp [tK] at hq
theorem fl_nilP {D : va_G} {cl : List vw_C} {H : Heap} {Ks : List va_W} (h : va_P D cl Ks.flatten H) : va_P D cl (Ks.flatten ++ List.flatten ([] : List va_W)) H := by
  rw [List.flatten_nil, List.append_nil]; exact h
theorem fl_nilD {A : Nat → Prop} {Ks : List va_W} (h : va_D A Ks.flatten) : va_D A (Ks.flatten ++ List.flatten ([] : List va_W)) := by
  rw [List.flatten_nil, List.append_nil]; exact h
def zF : Nat → Nat → Int32 := (fun i => (cond (Nat.ble 23 i) (cond (Nat.ble 35 i) (cond (Nat.ble 41 i) (cond (Nat.ble 44 i) (cond (Nat.ble 45 i) (cond (Nat.ble 46 i) (fun _ => 0) (fun _ => 0)) (va_up (fun _ => 0) 7 (-1 : Int32))) (cond (Nat.ble 42 i) (cond (Nat.ble 43 i) (fun _ => 0) (fun _ => 0)) (fun _ => 0))) (cond (Nat.ble 38 i) (cond (Nat.ble 39 i) (cond (Nat.ble 40 i) (fun _ => 0) (fun _ => 0)) (fun _ => 0)) (cond (Nat.ble 36 i) (cond (Nat.ble 37 i) (fun _ => 0) (fun _ => 0)) (fun _ => 0)))) (cond (Nat.ble 29 i) (cond (Nat.ble 32 i) (cond (Nat.ble 33 i) (cond (Nat.ble 34 i) (fun _ => 0) (fun _ => 0)) (fun _ => 0)) (cond (Nat.ble 30 i) (cond (Nat.ble 31 i) (fun _ => 0) (fun _ => 0)) (fun _ => 0))) (cond (Nat.ble 26 i) (cond (Nat.ble 27 i) (cond (Nat.ble 28 i) (fun _ => 0) (fun _ => 0)) (fun _ => 0)) (cond (Nat.ble 24 i) (cond (Nat.ble 25 i) (fun _ => 0) (fun _ => 0)) (fun _ => 0))))) (cond (Nat.ble 11 i) (cond (Nat.ble 17 i) (cond (Nat.ble 20 i) (cond (Nat.ble 21 i) (cond (Nat.ble 22 i) (fun _ => 0) (fun _ => 0)) (fun _ => 0)) (cond (Nat.ble 18 i) (cond (Nat.ble 19 i) (fun _ => 0) (fun _ => 0)) (fun _ => 0))) (cond (Nat.ble 14 i) (cond (Nat.ble 15 i) (cond (Nat.ble 16 i) (fun _ => 0) (fun _ => 0)) (fun _ => 0)) (cond (Nat.ble 12 i) (cond (Nat.ble 13 i) (fun _ => 0) (fun _ => 0)) (fun _ => 0)))) (cond (Nat.ble 5 i) (cond (Nat.ble 8 i) (cond (Nat.ble 9 i) (cond (Nat.ble 10 i) (fun _ => 0) (fun _ => 0)) (fun _ => 0)) (cond (Nat.ble 6 i) (cond (Nat.ble 7 i) (fun _ => 0) (fun _ => 0)) (fun _ => 0))) (cond (Nat.ble 2 i) (cond (Nat.ble 3 i) (cond (Nat.ble 4 i) (fun _ => 0) (fun _ => 0)) (fun _ => 0)) (cond (Nat.ble 1 i) (fun _ => 0) (va_up (fun _ => 0) 1 (-1 : Int32))))))))
def zG : Nat → Nat → Nat → Int32 := (fun i => (cond (Nat.ble 29 i) (cond (Nat.ble 44 i) (cond (Nat.ble 51 i) (cond (Nat.ble 55 i) (cond (Nat.ble 57 i) (cond (Nat.ble 58 i) (fun _ _ => 0) (fun _ _ => 0)) (cond (Nat.ble 56 i) (fun _ _ => 0) (fun _ _ => 0))) (cond (Nat.ble 53 i) (cond (Nat.ble 54 i) (fun _ _ => 0) (fun _ _ => 0)) (cond (Nat.ble 52 i) (fun _ _ => 0) (fun _ _ => 0)))) (cond (Nat.ble 47 i) (cond (Nat.ble 49 i) (cond (Nat.ble 50 i) (fun _ _ => 0) (fun _ _ => 0)) (cond (Nat.ble 48 i) (fun _ _ => 0) (fun _ _ => 0))) (cond (Nat.ble 45 i) (cond (Nat.ble 46 i) (fun _ _ => 0) (fun _ _ => 0)) (fun _ _ => 0)))) (cond (Nat.ble 36 i) (cond (Nat.ble 40 i) (cond (Nat.ble 42 i) (cond (Nat.ble 43 i) (fun _ _ => 0) (fun _ _ => 0)) (cond (Nat.ble 41 i) (fun _ _ => 0) (fun _ _ => 0))) (cond (Nat.ble 38 i) (cond (Nat.ble 39 i) (fun _ _ => 0) (fun _ _ => 0)) (cond (Nat.ble 37 i) (fun _ _ => 0) (fun _ _ => 0)))) (cond (Nat.ble 32 i) (cond (Nat.ble 34 i) (cond (Nat.ble 35 i) (fun _ _ => 0) (fun _ _ => 0)) (cond (Nat.ble 33 i) (fun _ _ => 0) (fun _ _ => 0))) (cond (Nat.ble 30 i) (cond (Nat.ble 31 i) (fun _ _ => 0) (fun _ _ => 0)) (fun _ _ => 0))))) (cond (Nat.ble 14 i) (cond (Nat.ble 21 i) (cond (Nat.ble 25 i) (cond (Nat.ble 27 i) (cond (Nat.ble 28 i) (va_up (fun _ _ => 0) 0 (upd (upd (upd (upd (fun _ => 0) (0 : Int32).toNatClampNeg (-1 : Int32)) (1 : Int32).toNatClampNeg (-1 : Int32)) (2 : Int32).toNatClampNeg (-1 : Int32)) (3 : Int32).toNatClampNeg (-1 : Int32))) (fun _ _ => 0)) (cond (Nat.ble 26 i) (fun _ _ => 0) (fun _ _ => 0))) (cond (Nat.ble 23 i) (cond (Nat.ble 24 i) (fun _ _ => 0) (fun _ _ => 0)) (cond (Nat.ble 22 i) (fun _ _ => 0) (fun _ _ => 0)))) (cond (Nat.ble 17 i) (cond (Nat.ble 19 i) (cond (Nat.ble 20 i) (fun _ _ => 0) (fun _ _ => 0)) (cond (Nat.ble 18 i) (fun _ _ => 0) (fun _ _ => 0))) (cond (Nat.ble 15 i) (cond (Nat.ble 16 i) (fun _ _ => 0) (fun _ _ => 0)) (fun _ _ => 0)))) (cond (Nat.ble 7 i) (cond (Nat.ble 10 i) (cond (Nat.ble 12 i) (cond (Nat.ble 13 i) (fun _ _ => 0) (fun _ _ => 0)) (cond (Nat.ble 11 i) (fun _ _ => 0) (fun _ _ => 0))) (cond (Nat.ble 8 i) (cond (Nat.ble 9 i) (fun _ _ => 0) (fun _ _ => 0)) (fun _ _ => 0))) (cond (Nat.ble 3 i) (cond (Nat.ble 5 i) (cond (Nat.ble 6 i) (fun _ _ => 0) (fun _ _ => 0)) (cond (Nat.ble 4 i) (fun _ _ => 0) (fun _ => (fun _ => 0)))) (cond (Nat.ble 1 i) (cond (Nat.ble 2 i) (fun _ => (va_up (va_up (fun _ => 0) 2 (-1 : Int32)) 3 (-1 : Int32))) (fun _ => (fun _ => 0))) (fun _ => (va_up (va_up (fun _ => 0) 2 (-1 : Int32)) 3 (-1 : Int32)))))))))
def zGG : Nat → Nat → Nat → Nat → Int32 := (fun i => (cond (Nat.ble 1 i) (fun _ => (fun _ _ => 0)) (fun _ => (fun _ _ => 0))))
def zJ : Nat → Nat → Nat → Int64 := (fun i => (cond (Nat.ble 3 i) (cond (Nat.ble 4 i) (cond (Nat.ble 5 i) (fun _ _ => 0) (fun _ _ => 0)) (fun _ _ => 0)) (cond (Nat.ble 1 i) (cond (Nat.ble 2 i) (fun _ _ => 0) (fun _ _ => 0)) (fun _ _ => 0))))
def zD : Nat → Nat → Int64 := (fun i => (fun _ => 0))
theorem zF_ok : ∀ i, PF i (zF i) := by
  intro i
  unfold PF zF
  cases Nat.ble 23 i
  · skip
    cases Nat.ble 11 i
    · skip
      cases Nat.ble 5 i
      · skip
        cases Nat.ble 2 i
        · skip
          cases Nat.ble 1 i
          · skip
            exact trivial
          · skip
            exact (fun _ => ⟨(show (0 : Int) ≤ (0 : Int32).toInt from by decide), (show (0 : Int32).toInt ≤ (700 : Int) from by decide)⟩)
        · skip
          cases Nat.ble 3 i
          · skip
            exact trivial
          · skip
            cases Nat.ble 4 i
            · skip
              exact (fun _ => ⟨(show (0 : Int) ≤ (0 : Int32).toInt from by decide), (show (0 : Int32).toInt ≤ (3 : Int) from by decide)⟩)
            · skip
              exact (fun _ => ⟨(show (0 : Int) ≤ (0 : Int32).toInt from by decide), (show (0 : Int32).toInt ≤ (7 : Int) from by decide)⟩)
      · skip
        cases Nat.ble 8 i
        · skip
          cases Nat.ble 6 i
          · skip
            exact (fun _ => ⟨(show (0 : Int) ≤ (0 : Int32).toInt from by decide), (show (0 : Int32).toInt ≤ (5 : Int) from by decide)⟩)
          · skip
            cases Nat.ble 7 i
            · skip
              exact trivial
            · skip
              exact (fun _ => ⟨(show (0 : Int) ≤ (0 : Int32).toInt from by decide), (show (0 : Int32).toInt ≤ (3 : Int) from by decide)⟩)
        · skip
          cases Nat.ble 9 i
          · skip
            exact (fun _ => ⟨(show (0 : Int) ≤ (0 : Int32).toInt from by decide), (show (0 : Int32).toInt ≤ (7 : Int) from by decide)⟩)
          · skip
            cases Nat.ble 10 i
            · skip
              exact (fun _ => ⟨(show (0 : Int) ≤ (0 : Int32).toInt from by decide), (show (0 : Int32).toInt ≤ (5 : Int) from by decide)⟩)
            · skip
              exact (fun _ => ⟨(show (0 : Int) ≤ (0 : Int32).toInt from by decide), (show (0 : Int32).toInt ≤ (30 : Int) from by decide)⟩)
    · skip
      cases Nat.ble 17 i
      · skip
        cases Nat.ble 14 i
        · skip
          cases Nat.ble 12 i
          · skip
            exact trivial
          · skip
            cases Nat.ble 13 i
            · skip
              exact trivial
            · skip
              exact trivial
        · skip
          cases Nat.ble 15 i
          · skip
            exact trivial
          · skip
            cases Nat.ble 16 i
            · skip
              exact trivial
            · skip
              exact (fun _ => ⟨(show (0 : Int) ≤ (0 : Int32).toInt from by decide), (show (0 : Int32).toInt ≤ (7 : Int) from by decide)⟩)
      · skip
        cases Nat.ble 20 i
        · skip
          cases Nat.ble 18 i
          · skip
            exact (fun _ => ⟨(show (0 : Int) ≤ (0 : Int32).toInt from by decide), (show (0 : Int32).toInt ≤ (8 : Int) from by decide)⟩)
          · skip
            cases Nat.ble 19 i
            · skip
              exact trivial
            · skip
              exact (fun _ => ⟨(show (0 : Int) ≤ (0 : Int32).toInt from by decide), (show (0 : Int32).toInt ≤ (60 : Int) from by decide)⟩)
        · skip
          cases Nat.ble 21 i
          · skip
            exact trivial
          · skip
            cases Nat.ble 22 i
            · skip
              exact (fun _ => ⟨(show (0 : Int) ≤ (0 : Int32).toInt from by decide), (show (0 : Int32).toInt ≤ (60 : Int) from by decide)⟩)
            · skip
              exact trivial
  · skip
    cases Nat.ble 35 i
    · skip
      cases Nat.ble 29 i
      · skip
        cases Nat.ble 26 i
        · skip
          cases Nat.ble 24 i
          · skip
            exact (fun _ => ⟨(show (0 : Int) ≤ (0 : Int32).toInt from by decide), (show (0 : Int32).toInt ≤ (60 : Int) from by decide)⟩)
          · skip
            cases Nat.ble 25 i
            · skip
              exact trivial
            · skip
              exact (fun _ => ⟨(show (0 : Int) ≤ (0 : Int32).toInt from by decide), (show (0 : Int32).toInt ≤ (60 : Int) from by decide)⟩)
        · skip
          cases Nat.ble 27 i
          · skip
            exact trivial
          · skip
            cases Nat.ble 28 i
            · skip
              exact trivial
            · skip
              exact (fun _ => ⟨(show (0 : Int) ≤ (0 : Int32).toInt from by decide), (show (0 : Int32).toInt ≤ (3 : Int) from by decide)⟩)
      · skip
        cases Nat.ble 32 i
        · skip
          cases Nat.ble 30 i
          · skip
            exact (fun _ => ⟨(show (0 : Int) ≤ (0 : Int32).toInt from by decide), (show (0 : Int32).toInt ≤ (7 : Int) from by decide)⟩)
          · skip
            cases Nat.ble 31 i
            · skip
              exact (fun _ => ⟨(show (0 : Int) ≤ (0 : Int32).toInt from by decide), (show (0 : Int32).toInt ≤ (5 : Int) from by decide)⟩)
            · skip
              exact (fun _ => ⟨(show (0 : Int) ≤ (0 : Int32).toInt from by decide), (show (0 : Int32).toInt ≤ (30 : Int) from by decide)⟩)
        · skip
          cases Nat.ble 33 i
          · skip
            exact trivial
          · skip
            cases Nat.ble 34 i
            · skip
              exact trivial
            · skip
              exact (fun _ => ⟨(show (0 : Int) ≤ (0 : Int32).toInt from by decide), (show (0 : Int32).toInt ≤ (3 : Int) from by decide)⟩)
    · skip
      cases Nat.ble 41 i
      · skip
        cases Nat.ble 38 i
        · skip
          cases Nat.ble 36 i
          · skip
            exact (fun _ => ⟨(show (0 : Int) ≤ (0 : Int32).toInt from by decide), (show (0 : Int32).toInt ≤ (7 : Int) from by decide)⟩)
          · skip
            cases Nat.ble 37 i
            · skip
              exact (fun _ => ⟨(show (0 : Int) ≤ (0 : Int32).toInt from by decide), (show (0 : Int32).toInt ≤ (5 : Int) from by decide)⟩)
            · skip
              exact (fun _ => ⟨(show (0 : Int) ≤ (0 : Int32).toInt from by decide), (show (0 : Int32).toInt ≤ (30 : Int) from by decide)⟩)
        · skip
          cases Nat.ble 39 i
          · skip
            exact trivial
          · skip
            cases Nat.ble 40 i
            · skip
              exact trivial
            · skip
              exact (fun _ => ⟨(show (0 : Int) ≤ (0 : Int32).toInt from by decide), (show (0 : Int32).toInt ≤ (3 : Int) from by decide)⟩)
      · skip
        cases Nat.ble 44 i
        · skip
          cases Nat.ble 42 i
          · skip
            exact (fun _ => ⟨(show (0 : Int) ≤ (0 : Int32).toInt from by decide), (show (0 : Int32).toInt ≤ (7 : Int) from by decide)⟩)
          · skip
            cases Nat.ble 43 i
            · skip
              exact (fun _ => ⟨(show (0 : Int) ≤ (0 : Int32).toInt from by decide), (show (0 : Int32).toInt ≤ (5 : Int) from by decide)⟩)
            · skip
              exact (fun _ => ⟨(show (0 : Int) ≤ (0 : Int32).toInt from by decide), (show (0 : Int32).toInt ≤ (30 : Int) from by decide)⟩)
        · skip
          cases Nat.ble 45 i
          · skip
            exact trivial
          · skip
            cases Nat.ble 46 i
            · skip
              exact (fun _ => ⟨(show (0 : Int) ≤ (0 : Int32).toInt from by decide), (show (0 : Int32).toInt ≤ (700 : Int) from by decide)⟩)
            · skip
              exact (fun _ => ⟨(show (-1 : Int) ≤ (0 : Int32).toInt from by decide), (show (0 : Int32).toInt ≤ (127 : Int) from by decide)⟩)
theorem zG_ok : ∀ i, PG i (zG i) := by
  intro i
  unfold PG zG
  cases Nat.ble 29 i
  · skip
    cases Nat.ble 14 i
    · skip
      cases Nat.ble 7 i
      · skip
        cases Nat.ble 3 i
        · skip
          cases Nat.ble 1 i
          · skip
            exact trivial
          · skip
            cases Nat.ble 2 i
            · skip
              exact (fun _ => fun _ => ⟨(show (0 : Int) ≤ (0 : Int32).toInt from by decide), (show (0 : Int32).toInt ≤ (8 : Int) from by decide)⟩)
            · skip
              exact trivial
        · skip
          cases Nat.ble 5 i
          · skip
            cases Nat.ble 4 i
            · skip
              exact (fun _ => fun _ => ⟨(show (0 : Int) ≤ (0 : Int32).toInt from by decide), (show (0 : Int32).toInt ≤ (8 : Int) from by decide)⟩)
            · skip
              exact trivial
          · skip
            cases Nat.ble 6 i
            · skip
              exact trivial
            · skip
              exact trivial
      · skip
        cases Nat.ble 10 i
        · skip
          cases Nat.ble 8 i
          · skip
            exact (fun _ => fun _ => ⟨(show (0 : Int) ≤ (0 : Int32).toInt from by decide), (show (0 : Int32).toInt ≤ (99 : Int) from by decide)⟩)
          · skip
            cases Nat.ble 9 i
            · skip
              exact trivial
            · skip
              exact (fun _ => fun _ => ⟨(show (0 : Int) ≤ (0 : Int32).toInt from by decide), (show (0 : Int32).toInt ≤ (99 : Int) from by decide)⟩)
        · skip
          cases Nat.ble 12 i
          · skip
            cases Nat.ble 11 i
            · skip
              exact trivial
            · skip
              exact trivial
          · skip
            cases Nat.ble 13 i
            · skip
              exact (fun _ => fun _ => ⟨(show (0 : Int) ≤ (0 : Int32).toInt from by decide), (show (0 : Int32).toInt ≤ (99 : Int) from by decide)⟩)
            · skip
              exact trivial
    · skip
      cases Nat.ble 21 i
      · skip
        cases Nat.ble 17 i
        · skip
          cases Nat.ble 15 i
          · skip
            exact (fun _ => fun _ => ⟨(show (0 : Int) ≤ (0 : Int32).toInt from by decide), (show (0 : Int32).toInt ≤ (99 : Int) from by decide)⟩)
          · skip
            cases Nat.ble 16 i
            · skip
              exact trivial
            · skip
              exact trivial
        · skip
          cases Nat.ble 19 i
          · skip
            cases Nat.ble 18 i
            · skip
              exact trivial
            · skip
              exact trivial
          · skip
            cases Nat.ble 20 i
            · skip
              exact trivial
            · skip
              exact (fun _ => fun _ => ⟨(show (0 : Int) ≤ (0 : Int32).toInt from by decide), (show (0 : Int32).toInt ≤ (99 : Int) from by decide)⟩)
      · skip
        cases Nat.ble 25 i
        · skip
          cases Nat.ble 23 i
          · skip
            cases Nat.ble 22 i
            · skip
              exact trivial
            · skip
              exact trivial
          · skip
            cases Nat.ble 24 i
            · skip
              exact (fun _ => fun _ => ⟨(show (0 : Int) ≤ (0 : Int32).toInt from by decide), (show (0 : Int32).toInt ≤ (99 : Int) from by decide)⟩)
            · skip
              exact trivial
        · skip
          cases Nat.ble 27 i
          · skip
            cases Nat.ble 26 i
            · skip
              exact trivial
            · skip
              exact (fun _ => fun _ => ⟨(show (0 : Int) ≤ (0 : Int32).toInt from by decide), (show (0 : Int32).toInt ≤ (99 : Int) from by decide)⟩)
          · skip
            cases Nat.ble 28 i
            · skip
              exact trivial
            · skip
              exact trivial
  · skip
    cases Nat.ble 44 i
    · skip
      cases Nat.ble 36 i
      · skip
        cases Nat.ble 32 i
        · skip
          cases Nat.ble 30 i
          · skip
            exact (fun _ => fun _ => ⟨(show (0 : Int) ≤ (0 : Int32).toInt from by decide), (show (0 : Int32).toInt ≤ (60 : Int) from by decide)⟩)
          · skip
            cases Nat.ble 31 i
            · skip
              exact trivial
            · skip
              exact trivial
        · skip
          cases Nat.ble 34 i
          · skip
            cases Nat.ble 33 i
            · skip
              exact (fun _ => ⟨(fun _ _ => ⟨(show (0 : Int) ≤ (0 : Int32).toInt from by decide), (show (0 : Int32).toInt ≤ (3 : Int) from by decide)⟩), (fun _ _ => ⟨(show (0 : Int) ≤ (0 : Int32).toInt from by decide), (show (0 : Int32).toInt ≤ (7 : Int) from by decide)⟩), (fun _ _ => ⟨(show (0 : Int) ≤ (0 : Int32).toInt from by decide), (show (0 : Int32).toInt ≤ (5 : Int) from by decide)⟩), (fun _ _ => ⟨(show (0 : Int) ≤ (0 : Int32).toInt from by decide), (show (0 : Int32).toInt ≤ (4 : Int) from by decide)⟩), (fun _ _ => ⟨(show (0 : Int) ≤ (0 : Int32).toInt from by decide), (show (0 : Int32).toInt ≤ (30 : Int) from by decide)⟩)⟩)
            · skip
              exact trivial
          · skip
            cases Nat.ble 35 i
            · skip
              exact (fun _ => (fun _ _ => ⟨(show (0 : Int) ≤ (0 : Int32).toInt from by decide), (show (0 : Int32).toInt ≤ (2 : Int) from by decide)⟩))
            · skip
              exact (fun _ => (fun _ _ => ⟨(show (-1 : Int) ≤ (0 : Int32).toInt from by decide), (show (0 : Int32).toInt ≤ (2 : Int) from by decide)⟩))
      · skip
        cases Nat.ble 40 i
        · skip
          cases Nat.ble 38 i
          · skip
            cases Nat.ble 37 i
            · skip
              exact trivial
            · skip
              exact (fun _ => ⟨(fun _ _ => ⟨(show (0 : Int) ≤ (0 : Int32).toInt from by decide), (show (0 : Int32).toInt ≤ (6 : Int) from by decide)⟩), (fun _ _ => ⟨(show (-1 : Int) ≤ (0 : Int32).toInt from by decide), (show (0 : Int32).toInt ≤ (2 : Int) from by decide)⟩)⟩)
          · skip
            cases Nat.ble 39 i
            · skip
              exact trivial
            · skip
              exact trivial
        · skip
          cases Nat.ble 42 i
          · skip
            cases Nat.ble 41 i
            · skip
              exact (fun _ => fun _ => ⟨(show (-1 : Int) ≤ (0 : Int32).toInt from by decide), (show (0 : Int32).toInt ≤ (2 : Int) from by decide)⟩)
            · skip
              exact (fun _ => fun _ => ⟨(show (0 : Int) ≤ (0 : Int32).toInt from by decide), (show (0 : Int32).toInt ≤ (6 : Int) from by decide)⟩)
          · skip
            cases Nat.ble 43 i
            · skip
              exact trivial
            · skip
              exact trivial
    · skip
      cases Nat.ble 51 i
      · skip
        cases Nat.ble 47 i
        · skip
          cases Nat.ble 45 i
          · skip
            exact (fun _ _ => ⟨(show (0 : Int) ≤ (0 : Int32).toInt from by decide), (show (0 : Int32).toInt ≤ (8 : Int) from by decide)⟩)
          · skip
            cases Nat.ble 46 i
            · skip
              exact trivial
            · skip
              exact trivial
        · skip
          cases Nat.ble 49 i
          · skip
            cases Nat.ble 48 i
            · skip
              exact (fun _ => fun _ => ⟨(show (-1 : Int) ≤ (0 : Int32).toInt from by decide), (show (0 : Int32).toInt ≤ (2 : Int) from by decide)⟩)
            · skip
              exact trivial
          · skip
            cases Nat.ble 50 i
            · skip
              exact trivial
            · skip
              exact trivial
      · skip
        cases Nat.ble 55 i
        · skip
          cases Nat.ble 53 i
          · skip
            cases Nat.ble 52 i
            · skip
              exact trivial
            · skip
              exact (fun _ => fun _ => ⟨(show (0 : Int) ≤ (0 : Int32).toInt from by decide), (show (0 : Int32).toInt ≤ (7 : Int) from by decide)⟩)
          · skip
            cases Nat.ble 54 i
            · skip
              exact trivial
            · skip
              exact trivial
        · skip
          cases Nat.ble 57 i
          · skip
            cases Nat.ble 56 i
            · skip
              exact trivial
            · skip
              exact trivial
          · skip
            cases Nat.ble 58 i
            · skip
              exact trivial
            · skip
              exact trivial
theorem zGG_ok : ∀ i, PGG i (zGG i) := by
  intro i
  unfold PGG zGG
  cases Nat.ble 1 i
  · skip
    exact trivial
  · skip
    exact trivial
theorem zRL : Rel9 zF zG := ⟨Or.inl ⟨rfl, rfl⟩, Or.inl ⟨rfl, rfl⟩, Or.inl ⟨rfl, rfl⟩, Or.inl ⟨rfl, rfl⟩⟩
