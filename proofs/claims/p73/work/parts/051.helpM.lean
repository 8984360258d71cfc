/-- depths: three places, 0 .. T -/
def Ru (T : Int) (f : Nat → Int32) : Prop := ∀ j : Nat, j < 3 → 0 ≤ (f j).toInt ∧ (f j).toInt ≤ T
def RuA (T : Int) (f : Nat → Nat → Int32) : Prop := Ru T (f 0)
theorem ru_wk {T T' : Int} {f : Nat → Int32} (h : Ru T f) (hT : T ≤ T') : Ru T' f := fun j hj => ⟨(h j hj).1, Int.le_trans (h j hj).2 hT⟩
theorem ruA_up {T : Int} {f : Nat → Nat → Int32} {g : Nat → Int32} (h : Ru T g) : RuA T (va_up f 0 g) := by
  show Ru T (va_up f 0 g 0)
  unfold va_up
  rw [if_pos rfl]
  exact h
theorem ru_rd {T : Int} {f : Nat → Int32} {i : Int32} (h : Ru T f) (h0 : 0 ≤ i.toInt) (h1 : i.toInt ≤ 2) : 0 ≤ (f i.toNatClampNeg).toInt ∧ (f i.toNatClampNeg).toInt ≤ T := h _ (by have h8 := zc_nat i h0; omega)
theorem ru_upd {T : Int} {f : Nat → Int32} {k : Nat} {x : Int32} (h : Ru T f) (hx : 0 ≤ x.toInt ∧ x.toInt ≤ T) : Ru T (upd f k x) := fun j hj => by
  unfold upd
  by_cases e : j = k
  · rw [if_pos e]; exact hx
  · rw [if_neg e]; exact h j hj
theorem ru_zero {f : Nat → Int32} : Ru 0 (upd (upd (upd f (0 : Int32).toNatClampNeg (0 : Int32)) (1 : Int32).toNatClampNeg (0 : Int32)) (2 : Int32).toNatClampNeg (0 : Int32)) := fun j hj => by
  have h9 : j = 0 ∨ j = 1 ∨ j = 2 := by omega
  have h8 : ∀ x : Int32, x = 0 → 0 ≤ x.toInt ∧ x.toInt ≤ 0 := fun x e => by rw [e]; exact ⟨by decide, by decide⟩
  rcases h9 with rfl | rfl | rfl
  · exact h8 _ rfl
  · exact h8 _ rfl
  · exact h8 _ rfl
theorem zshl7 {y : Int32} (h0 : 0 ≤ y.toInt) (h1 : y.toInt ≤ 7) : 1 ≤ ((1 : Int32) <<< (y &&& 31)).toInt ∧ ((1 : Int32) <<< (y &&& 31)).toInt ≤ 128 := by
  have h9 : y = 0 ∨ y = 1 ∨ y = 2 ∨ y = 3 ∨ y = 4 ∨ y = 5 ∨ y = 6 ∨ y = 7 := by
    simp only [zi_eq]
    show y.toInt = 0 ∨ y.toInt = 1 ∨ y.toInt = 2 ∨ y.toInt = 3 ∨ y.toInt = 4 ∨ y.toInt = 5 ∨ y.toInt = 6 ∨ y.toInt = 7
    omega
  rcases h9 with rfl | rfl | rfl | rfl | rfl | rfl | rfl | rfl <;> exact ⟨by decide, by decide⟩
theorem zl2i {x : Int64} (h0 : -1000 ≤ x.toInt) (h1 : x.toInt ≤ 1000) : x.toInt32.toInt = x.toInt := by
  rw [Int64.toInt_toInt32]
  exact Int.bmod_eq_of_le (by omega) (by omega)
theorem znegL (x : Int64) : (-x).toInt ≠ 0 ∨ x.toInt = 0 := by
  by_cases h : x.toInt = 0
  · exact Or.inr h
  · refine Or.inl (fun h9 => h ?_)
    have e1 : -x = 0 := zi_eqL.mpr h9
    have e2 : x = 0 := by rw [← Int64.neg_neg (a := x), e1]; rfl
    rw [e2]; rfl
theorem zpop {v : Int32} (h : 1 ≤ v.toInt) : 0 ≤ (v &&& (v - 1)).toInt ∧ (v &&& (v - 1)).toInt ≤ v.toInt - 1 := by
  have hv := fb_rng v
  have hw : (v - 1).toInt = v.toInt - 1 := fb_subI (x := v) (y := (1 : Int32)) (by show -2147483648 ≤ v.toInt - 1; omega) (by show v.toInt - 1 < 2147483648; omega)
  have h2 : (v - 1).toBitVec.toInt = v.toInt - 1 := hw
  have h3 : (v &&& (v - 1)).toBitVec.toNat ≤ (v - 1).toBitVec.toNat := by
    rw [Int32.toBitVec_and, BitVec.toNat_and]
    exact Nat.and_le_right
  have h4 : (v - 1).toBitVec.toNat < 2147483648 := by
    have h5 := BitVec.toInt_eq_toNat_cond (v - 1).toBitVec
    have h6 := (v - 1).toBitVec.isLt
    rw [h2] at h5
    split at h5 <;> omega
  have h5 : (v - 1).toBitVec.toInt = ((v - 1).toBitVec.toNat : Int) := by
    rw [BitVec.toInt_eq_toNat_cond, if_pos (by omega)]
  have h6 : (v &&& (v - 1)).toBitVec.toInt = ((v &&& (v - 1)).toBitVec.toNat : Int) := by
    rw [BitVec.toInt_eq_toNat_cond, if_pos (by omega)]
  have h7 : (v &&& (v - 1)).toInt = (v &&& (v - 1)).toBitVec.toInt := rfl
  rw [h7]
  omega
/-- a row of threes: a bridge, a turn, what is told -/
def Bk (ce : Nat → Int64) (s n : Int) : Prop := ∀ j : Nat, j % 3 = 0 → (j : Int) < n → (0 ≤ (ce (60 * s.toNat + j)).toInt ∧ (ce (60 * s.toNat + j)).toInt ≤ 2) ∧ (0 ≤ (ce (60 * s.toNat + j + 1)).toInt ∧ (ce (60 * s.toNat + j + 1)).toInt ≤ 6)
theorem bk_zero {ce : Nat → Int64} {s : Int} : Bk ce s (0 : Int) := fun j _ h => absurd h (by omega)
theorem bk_le {ce : Nat → Int64} {s n n' : Int} (h : Bk ce s n) (hn : n' ≤ n) : Bk ce s n' := fun j hj h9 => h j hj (by omega)
theorem bk_step {ce : Nat → Int64} {s i i' : Int} {k1 k2 : Int32} {x1 x2 : Int64} (h : Bk ce s i) (e1 : x1 = ce k1.toNatClampNeg) (e2 : x2 = ce k2.toNatClampNeg) (hs : 0 ≤ s) (hi : 0 ≤ i) (h3 : i % 3 = 0) (h1 : k1.toInt = 60 * s + i) (h2 : k2.toInt = 60 * s + i + 1)
    (b1 : 0 ≤ x1.toInt ∧ x1.toInt ≤ 2) (b2 : 0 ≤ x2.toInt ∧ x2.toInt ≤ 6) (hi' : i' = i + 3) : Bk ce s i' := fun j hj hlt => by
  by_cases hji : (j : Int) < i
  · exact h j hj hji
  · have z1 := zc_nat k1 (by omega)
    have z2 := zc_nat k2 (by omega)
    have hji2 : (j : Int) = i := by omega
    have a1 : 60 * s.toNat + j = k1.toNatClampNeg := by omega
    have a2 : 60 * s.toNat + j + 1 = k2.toNatClampNeg := by omega
    rw [a2, a1, ← e1, ← e2]
    exact ⟨b1, b2⟩
theorem bk_rd1 {ce : Nat → Int64} {s n j : Int} {k : Int32} (h : Bk ce s n) (h3 : j % 3 = 0) (h0 : 0 ≤ j) (hn : j < n) (hs : 0 ≤ s) (hk : k.toInt = 60 * s + j) : 0 ≤ (ce k.toNatClampNeg).toInt ∧ (ce k.toNatClampNeg).toInt ≤ 2 := by
  have z1 := zc_nat k (by omega)
  have a1 : k.toNatClampNeg = 60 * s.toNat + j.toNat := by omega
  rw [a1]
  exact (h j.toNat (by omega) (by omega)).1
theorem bk_rd2 {ce : Nat → Int64} {s n j : Int} {k : Int32} (h : Bk ce s n) (h3 : j % 3 = 0) (h0 : 0 ≤ j) (hn : j < n) (hs : 0 ≤ s) (hk : k.toInt = 60 * s + j + 1) : 0 ≤ (ce k.toNatClampNeg).toInt ∧ (ce k.toNatClampNeg).toInt ≤ 6 := by
  have z1 := zc_nat k (by omega)
  have a1 : k.toNatClampNeg = 60 * s.toNat + j.toNat + 1 := by omega
  rw [a1]
  exact (h j.toNat (by omega) (by omega)).2
def fct (n : Int) : Int := if n < 2 then 1 else if n = 2 then 2 else if n = 3 then 6 else if n = 4 then 24 else if n = 5 then 120 else if n = 6 then 720 else 5040
theorem fct_one {n : Int} (h : n < 2) : n ≤ 7 → 1 ≤ (1 : Int) ∧ (1 : Int) = fct n := fun _ => ⟨by decide, by unfold fct; rw [if_pos h]⟩
theorem fct_mul {n m : Int32} {r r' : Int64} (e : r = n.toInt64 * r') (h : m.toInt ≤ 7 → 1 ≤ r'.toInt ∧ r'.toInt = fct m.toInt) (hm : m.toInt = n.toInt - 1) (h2 : 2 ≤ n.toInt) : n.toInt ≤ 7 → 1 ≤ r.toInt ∧ r.toInt = fct n.toInt := by
  intro h7
  obtain ⟨-, h8⟩ := h (by omega)
  have h9 : n = 2 ∨ n = 3 ∨ n = 4 ∨ n = 5 ∨ n = 6 ∨ n = 7 := by
    simp only [zi_eq]
    show n.toInt = 2 ∨ n.toInt = 3 ∨ n.toInt = 4 ∨ n.toInt = 5 ∨ n.toInt = 6 ∨ n.toInt = 7
    omega
  rw [hm] at h8
  rcases h9 with rfl | rfl | rfl | rfl | rfl | rfl
  · obtain rfl : r' = 1 := zi_eqL.mpr (h8.trans (by decide))
    rw [e]; exact ⟨by decide, by decide⟩
  · obtain rfl : r' = 2 := zi_eqL.mpr (h8.trans (by decide))
    rw [e]; exact ⟨by decide, by decide⟩
  · obtain rfl : r' = 6 := zi_eqL.mpr (h8.trans (by decide))
    rw [e]; exact ⟨by decide, by decide⟩
  · obtain rfl : r' = 24 := zi_eqL.mpr (h8.trans (by decide))
    rw [e]; exact ⟨by decide, by decide⟩
  · obtain rfl : r' = 120 := zi_eqL.mpr (h8.trans (by decide))
    rw [e]; exact ⟨by decide, by decide⟩
  · obtain rfl : r' = 720 := zi_eqL.mpr (h8.trans (by decide))
    rw [e]; exact ⟨by decide, by decide⟩
/-- how deep the search for a common divisor can go yet -/
def Cm (d : Nat) (a b : Int) : Prop := (d % 2 = 1 ∧ b.natAbs < 2 ^ (d / 2)) ∨ (d % 2 = 0 ∧ b.natAbs < a.natAbs ∧ a.natAbs < 2 ^ (d / 2))
theorem cm_zero {a b : Int} : ¬ Cm 0 a b := by
  intro h
  rcases h with ⟨h, -⟩ | ⟨-, h1, h2⟩
  · exact absurd h (by decide)
  · have h3 : a.natAbs < 1 := h2
    omega
theorem cm_start (a b : Int64) : Cm 129 a.toInt b.toInt := by
  refine Or.inl ⟨by decide, ?_⟩
  have h := fb_rngL b
  show b.toInt.natAbs < 2 ^ 64
  omega
theorem cm_step {d : Nat} {a b r : Int} (h : Cm (d + 1) a b) (hr : r.natAbs < b.natAbs) (hr2 : b.natAbs < a.natAbs → 2 * r.natAbs < a.natAbs) : Cm d b r := by
  rcases h with ⟨h, h1⟩ | ⟨h, h1, h2⟩
  · refine Or.inr ⟨by omega, hr, ?_⟩
    have e : (d + 1) / 2 = d / 2 := by omega
    rw [e] at h1; exact h1
  · refine Or.inl ⟨by omega, ?_⟩
    have e : (d + 1) / 2 = d / 2 + 1 := by omega
    rw [e, Nat.pow_succ] at h2
    have h3 := hr2 h1
    omega
theorem zremL (a b : Int64) (hb : ¬ b.toInt = 0) : (a - a / b * b).toInt = a.toInt.tmod b.toInt := by
  have h1 := Int64.toInt_sub a (a / b * b)
  rw [Int64.toInt_mul, Int64.toInt_div, Int.bmod_mul_bmod, Int.sub_bmod_bmod, Int.mul_comm, ← Int.tmod_def] at h1
  rw [h1]
  have h2 := fb_rngL a
  have h3 := fb_rngL b
  have h4 : (a.toInt.tmod b.toInt).natAbs < b.toInt.natAbs := by rw [Int.natAbs_tmod]; exact Nat.mod_lt _ (by omega)
  exact Int.bmod_eq_of_le (by omega) (by omega)
theorem tmod_half {a b : Int} (h : b.natAbs < a.natAbs) (hb : b ≠ 0) : 2 * (a.tmod b).natAbs < a.natAbs := by
  rw [Int.natAbs_tmod]
  have h1 := Nat.div_add_mod a.natAbs b.natAbs
  have hb' : 0 < b.natAbs := by omega
  have h2 := Nat.mod_lt a.natAbs hb'
  have h3 : 1 ≤ a.natAbs / b.natAbs := Nat.div_pos (Nat.le_of_lt h) hb'
  have h4 : b.natAbs * 1 ≤ b.natAbs * (a.natAbs / b.natAbs) := Nat.mul_le_mul_left _ h3
  omega
theorem cm_rec {d : Nat} {a b r : Int64} (h : Cm (d + 1) a.toInt b.toInt) (hb : ¬ b.toInt = 0) (e : r = a - a / b * b) : Cm d b.toInt r.toInt := by
  rw [e, zremL a b hb]
  refine cm_step h ?_ (fun h9 => tmod_half h9 hb)
  rw [Int.natAbs_tmod]
  exact Nat.mod_lt _ (by omega)
/-- a row whose places have ranges by their remainder -/
def Md (m r : Nat) (lo hi : Int) (f : Nat → Int32) : Prop := ∀ j : Nat, j % m = r → lo ≤ (f j).toInt ∧ (f j).toInt ≤ hi
theorem md_rd {m r : Nat} {lo hi : Int} {f : Nat → Int32} {i : Int32} (h : Md m r lo hi f) (h0 : 0 ≤ i.toInt) : i.toInt % (m : Int) = (r : Int) → lo ≤ (f i.toNatClampNeg).toInt ∧ (f i.toNatClampNeg).toInt ≤ hi := fun e => h _ (by have h8 := zc_nat i h0; rw [← h8] at e; omega)
theorem md_upd {m r : Nat} {lo hi : Int} {f : Nat → Int32} {i x : Int32} (h : Md m r lo hi f) (h0 : 0 ≤ i.toInt) (hx : i.toInt % (m : Int) = (r : Int) → lo ≤ x.toInt ∧ x.toInt ≤ hi) : Md m r lo hi (upd f i.toNatClampNeg x) := fun j hj => by
  unfold upd; by_cases e : j = i.toNatClampNeg
  · rw [if_pos e]; refine hx ?_
    have h8 := zc_nat i h0; rw [e] at hj; rw [← h8]; omega
  · rw [if_neg e]; exact h j hj
def Pd_h (f : Nat → Int32) : Prop := Md 8 3 0 3 f ∧ Md 8 4 0 7 f ∧ Md 8 5 0 5 f ∧ Md 8 6 0 4 f ∧ Md 8 7 0 30 f
def Pa_h (f : Nat → Nat → Int32) : Prop := ∀ i, Pd_h (f i)
theorem pa_up_h {f : Nat → Nat → Int32} {k : Nat} {x : Nat → Int32} (h : Pa_h f) (hx : Pd_h x) : Pa_h (va_up f k x) := fun i => by
  unfold va_up; by_cases e : i = k
  · rw [if_pos e]; exact hx
  · rw [if_neg e]; exact h i
def Pd_p (f : Nat → Int32) : Prop := Md 2 1 0 2 f
def Pa_p (f : Nat → Nat → Int32) : Prop := ∀ i, Pd_p (f i)
theorem pa_up_p {f : Nat → Nat → Int32} {k : Nat} {x : Nat → Int32} (h : Pa_p f) (hx : Pd_p x) : Pa_p (va_up f k x) := fun i => by
  unfold va_up; by_cases e : i = k
  · rw [if_pos e]; exact hx
  · rw [if_neg e]; exact h i
def Pd_j (f : Nat → Int32) : Prop := Md 3 2 (-1) 2 f
def Pa_j (f : Nat → Nat → Int32) : Prop := ∀ i, Pd_j (f i)
theorem pa_up_j {f : Nat → Nat → Int32} {k : Nat} {x : Nat → Int32} (h : Pa_j f) (hx : Pd_j x) : Pa_j (va_up f k x) := fun i => by
  unfold va_up; by_cases e : i = k
  · rw [if_pos e]; exact hx
  · rw [if_neg e]; exact h i
def Pd_i (f : Nat → Int32) : Prop := Md 3 1 0 6 f ∧ Md 3 2 (-1) 2 f
def Pa_i (f : Nat → Nat → Int32) : Prop := ∀ i, Pd_i (f i)
theorem pa_up_i {f : Nat → Nat → Int32} {k : Nat} {x : Nat → Int32} (h : Pa_i f) (hx : Pd_i x) : Pa_i (va_up f k x) := fun i => by
  unfold va_up; by_cases e : i = k
  · rw [if_pos e]; exact hx
  · rw [if_neg e]; exact h i
def wMO (q : Nat → Nat) (k : Nat → ClassId) (width many cells moved tape lines has bridge cart ward frostAt act isKept loadNow byNow row memory whose deepNow brokenBy brokenAt goesBy comesTo sagMore creakOf wipedBy deepAt sagAt loadAt orderRow often lossOne lossOther : Nat) (v : Nat → Int32) (t : Nat → Int32) (m : Nat → Int32) (g : Nat → Int64) : va_W := [((q 0), .inr (12, [.int (v 0), .ref width, .ref many, .ref cells, .ref moved, .ref tape, .int (t 0), .int (t 1), .int (v 1), .int (v 2), .int (v 3), .long (g 0), .int (v 4), .int (v 5), .int (v 6), .int (v 7), .ref lines, .ref has, .ref bridge, .ref cart, .ref ward, .ref frostAt, .ref act, .ref isKept, .int (v 8), .int (v 9), .int (v 10), .ref loadNow, .ref byNow, .ref row, .ref memory, .ref whose, .ref deepNow, .ref brokenBy, .ref brokenAt, .ref goesBy, .ref comesTo, .ref sagMore, .ref creakOf, .ref wipedBy, .ref deepAt, .ref sagAt, .ref loadAt, .int (v 11), .int (v 12), .int (v 13), .ref orderRow, .int (v 14), .int (v 15), .int (v 16), .int (m 0), .int (v 17), .int (v 18), .ref often, .int (v 19), .int (v 20), .int (v 21), .ref lossOne, .ref lossOther]))]
def wmWi (q : Nat → Nat) (k : Nat → ClassId) (a : Nat → Nat → Int32) : va_W := [((q 0), .inl ((k 0), 4, .inl (a 0)))]
def wmMy (q : Nat → Nat) (k : Nat → ClassId) (z : Nat → Nat → Int32) : va_W := [((q 0), .inl ((k 0), 4, .inl (z 0)))]
def wmCe (q : Nat → Nat) (k : Nat → ClassId) (l : Nat → Nat → Int64) : va_W := [((q 0), .inl ((k 1), 240, .inr (.inl (l 0))))]
def wmMv (q : Nat → Nat) (k : Nat → ClassId) (l : Nat → Nat → Int64) : va_W := [((q 0), .inl ((k 1), 60, .inr (.inl (l 0))))]
def wmTa (q : Nat → Nat) (k : Nat → ClassId) (a : Nat → Nat → Int32) : va_W := [((q 0), .inl ((k 2), 700, .inl (a 0)))]
def wmLi (q : Nat → Nat) (k : Nat → ClassId) (a : Nat → Nat → Int32) : va_W := [((q 0), .inl ((k 0), 5, .inl (a 0)))]
def wmHa (q : Nat → Nat) (k : Nat → ClassId) (h : Nat → Nat → Int32) : va_W := [((q 0), .inl ((k 0), 40, .inl (h 0)))]
def wmBr (q : Nat → Nat) (k : Nat → ClassId) (a : Nat → Nat → Int32) : va_W := [((q 0), .inl ((k 0), 30, .inl (a 0)))]
def wmCa (q : Nat → Nat) (k : Nat → ClassId) (p : Nat → Nat → Int32) : va_W := [((q 0), .inl ((k 0), 70, .inl (p 0)))]
def wmWa (q : Nat → Nat) (k : Nat → ClassId) (j : Nat → Nat → Int32) : va_W := [((q 0), .inl ((k 0), 75, .inl (j 0)))]
def wmFr (q : Nat → Nat) (k : Nat → ClassId) (a : Nat → Nat → Int32) : va_W := [((q 0), .inl ((k 0), 20, .inl (a 0)))]
def wmAc (q : Nat → Nat) (k : Nat → ClassId) (i : Nat → Nat → Int32) : va_W := [((q 0), .inl ((k 0), 450, .inl (i 0)))]
def wmIk (q : Nat → Nat) (k : Nat → ClassId) (a : Nat → Nat → Int32) : va_W := [((q 0), .inl ((k 3), 3, .inl (a 0)))]
def wmLn (q : Nat → Nat) (k : Nat → ClassId) (a : Nat → Nat → Int32) : va_W := [((q 0), .inl ((k 0), 7, .inl (a 0)))]
def wmBn (q : Nat → Nat) (k : Nat → ClassId) (y : Nat → Nat → Int32) : va_W := [((q 0), .inl ((k 0), 7, .inl (y 0)))]
def wmRw (q : Nat → Nat) (k : Nat → ClassId) (r : Nat → Nat → Int32) : va_W := [((q 0), .inl ((k 0), 7, .inl (r 0)))]
def wmMe (q : Nat → Nat) (k : Nat → ClassId) (a : Nat → Nat → Int32) : va_W := [((q 0), .inl ((k 0), 24, .inl (a 0)))]
def wmWh (q : Nat → Nat) (k : Nat → ClassId) (a : Nat → Nat → Int32) : va_W := [((q 0), .inl ((k 0), 24, .inl (a 0)))]
def wmDn (q : Nat → Nat) (k : Nat → ClassId) (u : Nat → Nat → Int32) : va_W := [((q 0), .inl ((k 0), 3, .inl (u 0)))]
def wmBb (q : Nat → Nat) (k : Nat → ClassId) (a : Nat → Nat → Int32) : va_W := [((q 0), .inl ((k 0), 3, .inl (a 0)))]
def wmBa (q : Nat → Nat) (k : Nat → ClassId) (a : Nat → Nat → Int32) : va_W := [((q 0), .inl ((k 0), 3, .inl (a 0)))]
def wmGb (q : Nat → Nat) (k : Nat → ClassId) (y : Nat → Nat → Int32) : va_W := [((q 0), .inl ((k 0), 7, .inl (y 0)))]
def wmCt (q : Nat → Nat) (k : Nat → ClassId) (a : Nat → Nat → Int32) : va_W := [((q 0), .inl ((k 0), 7, .inl (a 0)))]
def wmSm (q : Nat → Nat) (k : Nat → ClassId) (a : Nat → Nat → Int32) : va_W := [((q 0), .inl ((k 0), 7, .inl (a 0)))]
def wmCo (q : Nat → Nat) (k : Nat → ClassId) (a : Nat → Nat → Int32) : va_W := [((q 0), .inl ((k 0), 7, .inl (a 0)))]
def wmWb (q : Nat → Nat) (k : Nat → ClassId) (a : Nat → Nat → Int32) : va_W := [((q 0), .inl ((k 0), 7, .inl (a 0)))]
def wmDa (q : Nat → Nat) (k : Nat → ClassId) (o : Nat → Nat → Int32) : va_W := [((q 0), .inl ((k 0), 21, .inl (o 0)))]
def wmSa (q : Nat → Nat) (k : Nat → ClassId) (a : Nat → Nat → Int32) : va_W := [((q 0), .inl ((k 0), 21, .inl (a 0)))]
def wmLa (q : Nat → Nat) (k : Nat → ClassId) (a : Nat → Nat → Int32) : va_W := [((q 0), .inl ((k 0), 168, .inl (a 0)))]
def wmOr (q : Nat → Nat) (k : Nat → ClassId) (a : Nat → Nat → Int32) : va_W := [((q 0), .inl ((k 0), 7, .inl (a 0)))]
def wmOf (q : Nat → Nat) (k : Nat → ClassId) (a : Nat → Nat → Int32) : va_W := [((q 0), .inl ((k 0), 7, .inl (a 0)))]
def wmLo (q : Nat → Nat) (k : Nat → ClassId) (a : Nat → Nat → Int32) : va_W := [((q 0), .inl ((k 0), 9, .inl (a 0)))]
def wmLt (q : Nat → Nat) (k : Nat → ClassId) (a : Nat → Nat → Int32) : va_W := [((q 0), .inl ((k 0), 9, .inl (a 0)))]
