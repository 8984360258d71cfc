theorem rd_at {f : Nat → Int32} {i : Int32} (j : Nat) (h0 : 0 ≤ i.toInt) : i.toInt = (j : Int) → (f i.toNatClampNeg).toInt = (f j).toInt := fun h => by
  have h8 := zc_nat i h0
  have h9 : i.toNatClampNeg = j := by omega
  rw [h9]
theorem upd_at {f : Nat → Int32} {i x : Int32} (j : Nat) (h0 : 0 ≤ i.toInt) : (i.toInt = (j : Int) ∧ (upd f i.toNatClampNeg x j).toInt = x.toInt) ∨ (i.toInt ≠ (j : Int) ∧ (upd f i.toNatClampNeg x j).toInt = (f j).toInt) := by
  have h8 := zc_nat i h0
  unfold upd
  by_cases e : j = i.toNatClampNeg
  · exact Or.inl ⟨by omega, by rw [if_pos e]⟩
  · exact Or.inr ⟨by omega, by rw [if_neg e]⟩
theorem keepI {p1 i e e1 w w1 : Int} (c : (p1 = i ∧ e1 = 1) ∨ (p1 ≠ i ∧ e1 = e)) (d : (p1 = i ∧ w1 = 1) ∨ (p1 ≠ i ∧ w1 = w)) (R : e = w) : e1 = w1 := by omega
theorem keepR {ok : Prop} {p1 p2 p3 i e u n w m e1 u1 n1 w1 m1 : Int} (c : (ok ∧ p1 = i ∧ e1 = 1 ∧ u1 = p2 ∧ n1 = p3) ∨ (¬ (ok ∧ p1 = i) ∧ e1 = e ∧ u1 = u ∧ n1 = n)) (d : (ok ∧ p1 = i ∧ w1 = p2 ∧ m1 = p3) ∨ (¬ (ok ∧ p1 = i) ∧ w1 = w ∧ m1 = m)) (hok : ok → 0 ≤ p2) (R : (e = 0 ∧ w = (-1)) ∨ (e ≠ 0 ∧ w = u ∧ 0 ≤ u ∧ m = n)) : (e1 = 0 ∧ w1 = (-1)) ∨ (e1 ≠ 0 ∧ w1 = u1 ∧ 0 ≤ u1 ∧ m1 = n1) := by
  rcases c with ⟨h1, h2, h3, h4, h5⟩ | ⟨h1, h3, h4, h5⟩
  · rcases d with ⟨g1, g2, g3, g4⟩ | ⟨g1, g3, g4⟩
    · have h6 := hok h1
      refine Or.inr ⟨by omega, by omega, by omega, by omega⟩
    · exact absurd ⟨h1, h2⟩ g1
  · rcases d with ⟨g1, g2, g3, g4⟩ | ⟨g1, g3, g4⟩
    · exact absurd ⟨g1, g2⟩ h1
    · rw [h3, h4, h5, g3, g4]; exact R
theorem keepS {e u n w m e1 u1 n1 : Int} (c : e1 = e ∧ u1 = u ∧ n1 = n) (R : (e = 0 ∧ w = (-1)) ∨ (e ≠ 0 ∧ w = u ∧ 0 ≤ u ∧ m = n)) : (e1 = 0 ∧ w = (-1)) ∨ (e1 ≠ 0 ∧ w = u1 ∧ 0 ≤ u1 ∧ m = n1) := by
  rw [c.1, c.2.1, c.2.2]; exact R
theorem nz0 {p a : Int32} (h : p = a) : a.toInt ≤ p.toInt ∧ p.toInt ≤ a.toInt := by rw [h]; exact ⟨Int.le_refl _, Int.le_refl _⟩
theorem nz3 {p lo hi b : Int} {X : Prop} (h : lo ≤ p ∧ p ≤ hi) (n : b < lo ∨ hi < b) : p = b → X := fun e => by exfalso; omega
theorem nz4 {p q a b c d : Int} (h : a ≤ p ∧ p ≤ b) (g : c ≤ q ∧ q ≤ d) (n : 0 ≤ a ∧ b ≤ 3 ∧ 0 ≤ c ∧ d ≤ 3) : 0 ≤ p ∧ p ≤ 3 ∧ 0 ≤ q ∧ q ≤ 3 := by omega
theorem z6 {x : Int} (h : -2147483648 ≤ x ∧ x < 2147483648) : ((-2147483648) ≤ x ∧ x ≤ (-1)) ∨ (4 ≤ x ∧ x ≤ 2147483647) ∨ (0 ≤ x ∧ x ≤ 0) ∨ (1 ≤ x ∧ x ≤ 1) ∨ (2 ≤ x ∧ x ≤ 2) ∨ (3 ≤ x ∧ x ≤ 3) := by omega
