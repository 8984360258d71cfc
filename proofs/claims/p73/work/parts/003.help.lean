theorem fb_rng (x : Int32) : -2147483648 ≤ x.toInt ∧ x.toInt < 2147483648 := by
  have h1 := Int32.le_toInt x
  have h2 := Int32.toInt_lt x
  omega
theorem fb_bmod {z : Int} (h1 : -2147483648 ≤ z) (h2 : z < 2147483648) : z.bmod (2 ^ 32) = z := by
  rw [Int.bmod_eq_of_le (by omega) (by omega)]
theorem fb_addI {x y : Int32} (h1 : -2147483648 ≤ x.toInt + y.toInt) (h2 : x.toInt + y.toInt < 2147483648) : (x + y).toInt = x.toInt + y.toInt := by
  rw [Int32.toInt_add, fb_bmod h1 h2]
theorem fb_subI {x y : Int32} (h1 : -2147483648 ≤ x.toInt - y.toInt) (h2 : x.toInt - y.toInt < 2147483648) : (x - y).toInt = x.toInt - y.toInt := by
  rw [Int32.toInt_sub, fb_bmod h1 h2]
theorem fb_mulI {x y : Int32} (h1 : -2147483648 ≤ x.toInt * y.toInt) (h2 : x.toInt * y.toInt < 2147483648) : (x * y).toInt = x.toInt * y.toInt := by
  rw [Int32.toInt_mul, fb_bmod h1 h2]
theorem fb_negI {x : Int32} (h : x.toInt ≠ -2147483648) : (-x).toInt = -x.toInt := by
  have := fb_rng x
  rw [Int32.toInt_neg, fb_bmod (by omega) (by omega)]
theorem fb_ofI {z : Int} (h1 : -2147483648 ≤ z) (h2 : z < 2147483648) : (Int32.ofInt z).toInt = z := by
  rw [Int32.toInt_ofInt, fb_bmod h1 h2]
theorem fb_asI (x : Int32) : Int32.ofInt x.toInt = x := Int32.ofInt_toInt x
theorem fb_rngL (x : Int64) : -9223372036854775808 ≤ x.toInt ∧ x.toInt < 9223372036854775808 := by
  have h1 := Int64.le_toInt x
  have h2 := Int64.toInt_lt x
  omega
theorem fb_bmodL {z : Int} (h1 : -9223372036854775808 ≤ z) (h2 : z < 9223372036854775808) : z.bmod (2 ^ 64) = z := by
  rw [Int.bmod_eq_of_le (by omega) (by omega)]
theorem fb_addL {x y : Int64} (h1 : -9223372036854775808 ≤ x.toInt + y.toInt) (h2 : x.toInt + y.toInt < 9223372036854775808) : (x + y).toInt = x.toInt + y.toInt := by
  rw [Int64.toInt_add, fb_bmodL h1 h2]
theorem fb_subL {x y : Int64} (h1 : -9223372036854775808 ≤ x.toInt - y.toInt) (h2 : x.toInt - y.toInt < 9223372036854775808) : (x - y).toInt = x.toInt - y.toInt := by
  rw [Int64.toInt_sub, fb_bmodL h1 h2]
theorem fb_mulL {x y : Int64} (h1 : -9223372036854775808 ≤ x.toInt * y.toInt) (h2 : x.toInt * y.toInt < 9223372036854775808) : (x * y).toInt = x.toInt * y.toInt := by
  rw [Int64.toInt_mul, fb_bmodL h1 h2]
theorem fb_byte {x : Int32} (h1 : -128 ≤ x.toInt) (h2 : x.toInt < 128) : x.toInt8.toInt32 = x := by
  apply Int32.toInt_inj.1
  rw [Int8.toInt_toInt32, Int32.toInt_toInt8, Int.bmod_eq_of_le (by omega) (by omega)]
theorem fb_byte_rng (x : Int32) : -128 ≤ x.toInt8.toInt32.toInt ∧ x.toInt8.toInt32.toInt < 128 := by
  rw [Int8.toInt_toInt32]
  have h1 := Int8.le_toInt x.toInt8
  have h2 := Int8.toInt_lt x.toInt8
  omega
theorem zi_lt {a b : Int32} : a < b ↔ a.toInt < b.toInt := Int32.lt_iff_toInt_lt
theorem zi_le {a b : Int32} : a ≤ b ↔ a.toInt ≤ b.toInt := Int32.le_iff_toInt_le
theorem zi_eq {a b : Int32} : a = b ↔ a.toInt = b.toInt := Int32.toInt_inj.symm
theorem zi_ltL {a b : Int64} : a < b ↔ a.toInt < b.toInt := Int64.lt_iff_toInt_lt
theorem zi_leL {a b : Int64} : a ≤ b ↔ a.toInt ≤ b.toInt := Int64.le_iff_toInt_le
theorem zi_eqL {a b : Int64} : a = b ↔ a.toInt = b.toInt := Int64.toInt_inj.symm
theorem wl_mem {c : Cond} {ws r : List Cond} (i : Nat) {w : Cond} (h : ws[i]? = some w) : w ∈ c :: (ws ++ r) := List.mem_cons_of_mem _ (List.mem_append_left _ (List.mem_of_getElem? h))
theorem gk_V {big ws : List Cond} {own C : String} {idx : Nat} {y : MethodName} (h1 : Cond.methodLink own idx y ∈ big) (h2 : Cond.instanceMethod y ∈ big) (h3 : Cond.selects C y y ∈ big) (h4 : Cond.initialized C ∈ big) (hm : ∀ w ∈ ws, w ∈ big) (h : ws.all goodWord = true) : GoodIn big (wsV own idx C y ws) := goodIn_app (goodIn_sub (List.forall_mem_cons.mpr ⟨h1, List.forall_mem_cons.mpr ⟨h2, List.forall_mem_cons.mpr ⟨h3, List.forall_mem_cons.mpr ⟨h4, fun _ h => absurd h List.not_mem_nil⟩⟩⟩⟩) rfl) (goodIn_sub hm h)
theorem gk_S {big ws : List Cond} {own : String} {idx : Nat} {y : MethodName} (h1 : Cond.methodLink own idx y ∈ big) (h2 : Cond.static y ∈ big) (h4 : Cond.initialized y.cls ∈ big) (hm : ∀ w ∈ ws, w ∈ big) (h : ws.all goodWord = true) : GoodIn big (va_wsS own idx y ws) := goodIn_app (goodIn_sub (List.forall_mem_cons.mpr ⟨h1, List.forall_mem_cons.mpr ⟨h2, List.forall_mem_cons.mpr ⟨h4, fun _ h => absurd h List.not_mem_nil⟩⟩⟩) rfl) (goodIn_sub hm h)
/-- a family's numbers lie in a range -/
def Rg (lo hi : Int) (f : Nat → Int32) : Prop := ∀ i, lo ≤ (f i).toInt ∧ (f i).toInt ≤ hi
def RgA (lo hi : Int) (f : Nat → Nat → Int32) : Prop := ∀ i, Rg lo hi (f i)
def zput {α : Type} (f : Nat → α) (o n : Nat) (g : Nat → α) : Nat → α := fun i => if o ≤ i ∧ i < o + n then g (i - o) else f i
theorem rg_up {lo hi : Int} {f : Nat → Int32} {k : Nat} {x : Int32} (h : Rg lo hi f) (hx : lo ≤ x.toInt ∧ x.toInt ≤ hi) : Rg lo hi (va_up f k x) := fun i => by
  unfold va_up; by_cases e : i = k
  · rw [if_pos e]; exact hx
  · rw [if_neg e]; exact h i
theorem rg_upd {lo hi : Int} {f : Nat → Int32} {k : Nat} {x : Int32} (h : Rg lo hi f) (hx : lo ≤ x.toInt ∧ x.toInt ≤ hi) : Rg lo hi (upd f k x) := fun i => by
  unfold upd; by_cases e : i = k
  · rw [if_pos e]; exact hx
  · rw [if_neg e]; exact h i
theorem rg_put {lo hi : Int} {f g : Nat → Int32} {o n : Nat} (h : Rg lo hi f) (hg : Rg lo hi g) : Rg lo hi (zput f o n g) := fun i => by
  unfold zput; by_cases e : o ≤ i ∧ i < o + n
  · rw [if_pos e]; exact hg _
  · rw [if_neg e]; exact h i
theorem rg_cpy {lo hi : Int} {f g : Nat → Int32} {sp dp n : Nat} (hf : Rg lo hi f) (hg : Rg lo hi g) : Rg lo hi (va_cpy f g sp dp n) := fun i => by
  unfold va_cpy; by_cases e : dp ≤ i ∧ i < dp + n
  · rw [if_pos e]; exact hf _
  · rw [if_neg e]; exact hg i
theorem rga_up {lo hi : Int} {f : Nat → Nat → Int32} {k : Nat} {x : Nat → Int32} (h : RgA lo hi f) (hx : Rg lo hi x) : RgA lo hi (va_up f k x) := fun i => by
  unfold va_up; by_cases e : i = k
  · rw [if_pos e]; exact hx
  · rw [if_neg e]; exact h i
theorem rga_put {lo hi : Int} {f g : Nat → Nat → Int32} {o n : Nat} (h : RgA lo hi f) (hg : RgA lo hi g) : RgA lo hi (zput f o n g) := fun i => by
  unfold zput; by_cases e : o ≤ i ∧ i < o + n
  · rw [if_pos e]; exact hg _
  · rw [if_neg e]; exact h i
theorem zc_nat (x : Int32) (h : 0 ≤ x.toInt) : (x.toNatClampNeg : Int) = x.toInt := by
  show ((x.toInt.toNat : Nat) : Int) = x.toInt
  omega
theorem w_gen {p : Program} {l : Launch} {e : Env} {R : Room} {s : State} {m : MethodId} {args : Array Value} {below : List Frame} {meth : Method} {c : Code} {H : Heap} {locs : List Loc} {cells slots : Nat} {Q : State → Prop} {g : JFrame} (h : ∀ Q' : State → Prop, Q' = Q → W p l e R s m args below meth c H locs cells slots Q' g) : W p l e R s m args below meth c H locs cells slots Q g := h Q rfl
/-- the cells at these places are others now -/
def zset : va_W → List Nat → va_W → va_W
  | ws, i :: is, x :: xs => zset (ws.set i x) is xs
  | ws, _, _ => ws
theorem zset_get : ∀ (is : List Nat) (xs ws : va_W), va_nd is = true → ∀ (k : Nat) (q : Nat × va_E), (zset ws is xs)[k]? = some q → (∃ j : Nat, is[j]? = some k ∧ xs[j]? = some q) ∨ ((∀ j : Nat, j < xs.length → is[j]? ≠ some k) ∧ ws[k]? = some q)
  | [], xs, ws, _, k, q, h => by
    right
    refine ⟨fun j _ h9 => by simp at h9, ?_⟩
    cases xs <;> exact h
  | i :: is, [], ws, _, k, q, h => by
    right
    exact ⟨fun j hj => absurd hj (Nat.not_lt_zero j), h⟩
  | i :: is, x :: xs, ws, hn, k, q, h => by
    simp only [va_nd, Bool.and_eq_true, decide_eq_true_eq] at hn
    have h' : (zset (ws.set i x) is xs)[k]? = some q := h
    rcases zset_get is xs (ws.set i x) hn.2 k q h' with ⟨j, h1, h2⟩ | ⟨h1, h2⟩
    · exact Or.inl ⟨j + 1, by simpa using h1, by simpa using h2⟩
    · by_cases e : k = i
      · subst e
        rw [List.getElem?_set] at h2
        simp only [if_true] at h2
        by_cases hl : k < ws.length
        · rw [if_pos hl] at h2
          exact Or.inl ⟨0, by simp, by simpa using h2⟩
        · rw [if_neg hl] at h2; cases h2
      · rw [List.getElem?_set_ne (Ne.symm e)] at h2
        refine Or.inr ⟨fun j hj => ?_, h2⟩
        cases j with
        | zero => intro h9; apply e; simpa using h9.symm
        | succ j => intro h9; exact h1 j (by simpa using hj) (by simpa using h9)
theorem zset_adr : ∀ (is : List Nat) (xs ws : va_W), is.map (fun i => (ws[i]?).map (fun z : Nat × va_E => z.1)) = xs.map (fun x => some x.1) → va_nd is = true → ∀ k : Nat, ((zset ws is xs)[k]?).map (fun z : Nat × va_E => z.1) = (ws[k]?).map (fun z : Nat × va_E => z.1)
  | [], xs, ws, _, _, k => by cases xs <;> rfl
  | i :: is, [], ws, _, _, k => rfl
  | i :: is, x :: xs, ws, h, hn, k => by
    simp only [List.map_cons, List.cons.injEq] at h
    simp only [va_nd, Bool.and_eq_true, decide_eq_true_eq] at hn
    have hi : ∀ k : Nat, ((ws.set i x)[k]?).map (fun z : Nat × va_E => z.1) = (ws[k]?).map (fun z : Nat × va_E => z.1) := by
      intro k
      by_cases e : i = k
      · subst e
        rw [List.getElem?_set]
        simp only [if_true]
        by_cases hl : i < ws.length
        · rw [if_pos hl]; exact h.1.symm
        · rw [if_neg hl, List.getElem?_eq_none (Nat.le_of_not_lt hl)]
      · rw [List.getElem?_set_ne e]
    show ((zset (ws.set i x) is xs)[k]?).map (fun z : Nat × va_E => z.1) = _
    rw [zset_adr is xs (ws.set i x) ?_ hn.2 k, hi k]
    rw [← h.2]
    exact List.map_congr_left (fun j _ => hi j)
/-- behind a call: the callee's cells as it left them, all others as they were -/
theorem w_call {A0 : Nat → Prop} {D : va_G} {cl : List vw_C} {ws wc w1 : va_W} {H H1 : Heap} (hP : va_P D cl ws H) (hD : va_D A0 ws) (is : List Nat) (hC : is.map (fun i => ws[i]?) = wc.map some) (hk : ∀ q : Nat, q < H.size → ¬ va_A wc H.size q → H1[q]? = H[q]?) (hP1 : va_P D cl w1 H1)
    (ha : w1.map (fun z : Nat × va_E => z.1) = wc.map (fun z : Nat × va_E => z.1)) (hn : va_nd is = true) : va_P D cl (zset ws is w1) H1 ∧ va_D A0 (zset ws is w1) := by
  have hlen : w1.length = wc.length := by simpa using congrArg List.length ha
  have at' : ∀ (k : Nat) (q : Nat × va_E), wc[k]? = some q → ∃ i, is[k]? = some i ∧ ws[i]? = some q := by
    intro k q hq
    have h1 : (is.map (fun i => ws[i]?))[k]? = some (some q) := by rw [hC, List.getElem?_map, hq]; rfl
    rw [List.getElem?_map] at h1
    cases hi : is[k]? with
    | none => rw [hi] at h1; cases h1
    | some i => rw [hi] at h1; exact ⟨i, rfl, Option.some.inj h1⟩
  have hadr : is.map (fun i => (ws[i]?).map (fun z : Nat × va_E => z.1)) = w1.map (fun x => some x.1) := by
    have h1 := congrArg (List.map (Option.map (fun z : Nat × va_E => z.1))) hC
    rw [List.map_map, List.map_map] at h1
    have h2 := congrArg (List.map some) ha
    rw [List.map_map, List.map_map] at h2
    exact h1.trans h2.symm
  have hset := zset_adr is w1 ws hadr hn
  refine ⟨fun k q hq => ?_, fun i j x y hx hy hxy => ?_, fun k q hq => ?_⟩
  · rcases zset_get is w1 ws hn k q hq with ⟨j, -, h2⟩ | ⟨h1, h2⟩
    · exact hP1 j q h2
    · have hl := (hP k q h2).lt
      refine (hP k q h2).kept (hk q.1 hl (fun h => ?_))
      rcases h with ⟨k2, e, h⟩ | h
      · obtain ⟨j, h3, h4⟩ := at' k2 (q.1, e) h
        have hij := hD.1 k j q (q.1, e) h2 h4 rfl
        subst hij
        exact h1 k2 (by rw [hlen]; exact (List.getElem?_eq_some_iff.mp h).1) h3
      · omega
  · have h1 := hset i; have h2 := hset j
    rw [hx] at h1; rw [hy] at h2
    cases e1 : ws[i]? with
    | none => rw [e1] at h1; cases h1
    | some p1 =>
      cases e2 : ws[j]? with
      | none => rw [e2] at h2; cases h2
      | some p2 =>
        rw [e1] at h1; rw [e2] at h2
        exact hD.1 i j p1 p2 e1 e2 (by have a1 := Option.some.inj h1; have a2 := Option.some.inj h2; exact a1.symm.trans (hxy.trans a2))
  · have h1 := hset k
    rw [hq] at h1
    cases e1 : ws[k]? with
    | none => rw [e1] at h1; cases h1
    | some p1 =>
      rw [e1] at h1
      have a1 : q.1 = p1.1 := Option.some.inj h1
      rw [a1]; exact hD.2 k p1 e1
theorem zb_nar {x : Int32} (h : x.toInt = 0 ∨ x.toInt = 1) : narrow .boolean (.int x) = .int x := by
  rcases h with h | h
  · obtain rfl : x = 0 := zi_eq.mpr h
    rfl
  · obtain rfl : x = 1 := zi_eq.mpr h
    rfl
theorem rgf_up {lo hi : Int} {f : Nat → Nat → Int32} {k : Nat} {x : Nat → Int32} (h : ∀ t, Rg lo hi (f t)) (hx : Rg lo hi x) : ∀ t, Rg lo hi (va_up f k x t) := fun i => by
  unfold va_up; by_cases e : i = k
  · rw [if_pos e]; exact hx
  · rw [if_neg e]; exact h i
theorem wp_iff {D : va_G} {cl : List vw_C} {ws : va_W} {H : Heap} : va_P D cl ws H ↔ ∀ q ∈ ws, va_at D cl q H := by
  refine ⟨fun h q hq => ?_, fun h k q hk => h q (List.mem_of_getElem? hk)⟩
  obtain ⟨k, hk⟩ := List.mem_iff_getElem?.mp hq
  exact h k q hk
theorem wd_eq {A : Nat → Prop} {ws : va_W} (hD : va_D A ws) {p q : Nat × va_E} (hp : p ∈ ws) (hq : q ∈ ws) (h : p.1 = q.1) : p = q := by
  obtain ⟨i, hi⟩ := List.mem_iff_getElem?.mp hp
  obtain ⟨j, hj⟩ := List.mem_iff_getElem?.mp hq
  have e := hD.1 i j p q hi hj h
  subst e
  rw [hi] at hj
  exact Option.some.inj hj
theorem wd_adr {A : Nat → Prop} {ws ws' : va_W} (h : ws'.map (fun z : Nat × va_E => z.1) = ws.map (fun z : Nat × va_E => z.1)) (hD : va_D A ws) : va_D A ws' := by
  have hset : ∀ k : Nat, (ws'[k]?).map (fun z : Nat × va_E => z.1) = (ws[k]?).map (fun z : Nat × va_E => z.1) := fun k => by rw [← List.getElem?_map, ← List.getElem?_map, h]
  refine ⟨fun i j x y hx hy hxy => ?_, fun k q hq => ?_⟩
  · have h1 := hset i; have h2 := hset j
    rw [hx] at h1; rw [hy] at h2
    cases e1 : ws[i]? with
    | none => rw [e1] at h1; cases h1
    | some p1 =>
      cases e2 : ws[j]? with
      | none => rw [e2] at h2; cases h2
      | some p2 =>
        rw [e1] at h1; rw [e2] at h2
        exact hD.1 i j p1 p2 e1 e2 (by have a1 := Option.some.inj h1; have a2 := Option.some.inj h2; exact a1.symm.trans (hxy.trans a2))
  · have h1 := hset k
    rw [hq] at h1
    cases e1 : ws[k]? with
    | none => rw [e1] at h1; cases h1
    | some p1 =>
      rw [e1] at h1
      have a1 : q.1 = p1.1 := Option.some.inj h1
      rw [a1]; exact hD.2 k p1 e1
theorem wd_iff {A : Nat → Prop} {ws : va_W} : va_D A ws ↔ ws.Pairwise (fun p q => p.1 ≠ q.1) ∧ ∀ q ∈ ws, A q.1 := by
  constructor
  · intro h
    refine ⟨List.pairwise_iff_getElem.mpr (fun i j hi hj hij e => ?_), fun q hq => ?_⟩
    · have := h.1 i j _ _ (List.getElem?_eq_getElem hi) (List.getElem?_eq_getElem hj) e
      omega
    · obtain ⟨k, hk⟩ := List.mem_iff_getElem?.mp hq
      exact h.2 k q hk
  · intro ⟨h1, h2⟩
    refine ⟨fun i j p q hp hq e => ?_, fun k q hk => h2 q (List.mem_of_getElem? hk)⟩
    obtain ⟨hi, ei⟩ := List.getElem?_eq_some_iff.mp hp
    obtain ⟨hj, ej⟩ := List.getElem?_eq_some_iff.mp hq
    rcases Nat.lt_trichotomy i j with h | h | h
    · exact absurd (by rw [ei, ej]; exact e) (List.pairwise_iff_getElem.mp h1 i j hi hj h)
    · exact h
    · exact absurd (by rw [ei, ej]; exact e.symm) (List.pairwise_iff_getElem.mp h1 j i hj hi h)
theorem wc_at {α : Type} {cs ccs : List α} {is : List Nat} (hC : is.map (fun i => cs[i]?) = ccs.map some) (k : Nat) (c : α) (h : ccs[k]? = some c) : ∃ i, is[k]? = some i ∧ cs[i]? = some c := by
  have h1 : (is.map (fun i => cs[i]?))[k]? = some (some c) := by rw [hC, List.getElem?_map, h]; rfl
  rw [List.getElem?_map] at h1
  cases hi : is[k]? with
  | none => rw [hi] at h1; cases h1
  | some i => rw [hi] at h1; exact ⟨i, rfl, Option.some.inj h1⟩
theorem wc_in {cs ccs : List va_W} {is : List Nat} (hC : is.map (fun i => cs[i]?) = ccs.map some) : ∀ q ∈ ccs.flatten, q ∈ cs.flatten := by
  intro q hq
  obtain ⟨c, hc, hqc⟩ := List.mem_flatten.mp hq
  obtain ⟨k, hk⟩ := List.mem_iff_getElem?.mp hc
  obtain ⟨i, -, hi⟩ := wc_at hC k c hk
  exact List.mem_flatten.mpr ⟨c, List.mem_of_getElem? hi, hqc⟩
theorem wc_subP0 {D : va_G} {cl : List vw_C} {Ks cks : List va_W} {H : Heap} (hP : va_P D cl Ks.flatten H) (is : List Nat) (hC : is.map (fun i => Ks[i]?) = cks.map some) : va_P D cl cks.flatten H := wp_iff.mpr (fun q hq => wp_iff.mp hP q (wc_in hC q hq))
theorem wc_subP1 {D : va_G} {cl : List vw_C} {Ms Ks cks : List va_W} {H : Heap} (hP : va_P D cl (Ms.flatten ++ Ks.flatten) H) (is : List Nat) (hC : is.map (fun i => (Ms ++ Ks)[i]?) = cks.map some) : va_P D cl cks.flatten H := wp_iff.mpr (fun q hq => wp_iff.mp hP q (by rw [← List.flatten_append]; exact wc_in hC q hq))
theorem wc_subP {D : va_G} {cl : List vw_C} {Ms Ks cms cks : List va_W} {H : Heap} (hP : va_P D cl (Ms.flatten ++ Ks.flatten) H) (is : List Nat) (hC : is.map (fun i => (Ms ++ Ks)[i]?) = (cms ++ cks).map some) : va_P D cl (cms.flatten ++ cks.flatten) H := wp_iff.mpr (fun q hq => wp_iff.mp hP q (by rw [← List.flatten_append] at hq ⊢; exact wc_in hC q hq))
theorem wc_subD {A : Nat → Prop} {Ms Ks cms cks : List va_W} (hD : va_D A (Ms.flatten ++ Ks.flatten)) (is : List Nat) (hC : is.map (fun i => (Ms ++ Ks)[i]?) = (cms ++ cks).map some) (hn : va_nd is = true) : va_D A (cms.flatten ++ cks.flatten) := by
  rw [← List.flatten_append] at hD ⊢
  generalize Ms ++ Ks = cs at hD hC
  generalize cms ++ cks = ccs at hC ⊢
  obtain ⟨h1, h2⟩ := wd_iff.mp hD
  obtain ⟨h3, h4⟩ := List.pairwise_flatten.mp h1
  refine wd_iff.mpr ⟨List.pairwise_flatten.mpr ⟨fun c hc => ?_, ?_⟩, fun q hq => h2 q (wc_in hC q hq)⟩
  · obtain ⟨k, hk⟩ := List.mem_iff_getElem?.mp hc
    obtain ⟨i, -, hi⟩ := wc_at hC k c hk
    exact h3 c (List.mem_of_getElem? hi)
  · refine List.pairwise_iff_getElem.mpr (fun a b ha hb hab x hx y hy => ?_)
    obtain ⟨i, ia, hi⟩ := wc_at hC a _ (List.getElem?_eq_getElem ha)
    obtain ⟨j, jb, hj⟩ := wc_at hC b _ (List.getElem?_eq_getElem hb)
    obtain ⟨li, ei⟩ := List.getElem?_eq_some_iff.mp hi
    obtain ⟨lj, ej⟩ := List.getElem?_eq_some_iff.mp hj
    have hij : i ≠ j := fun e => by
      subst e
      have := va_nd_inj is hn a b i ia jb
      omega
    rcases Nat.lt_or_gt_of_ne hij with h | h
    · exact List.pairwise_iff_getElem.mp h4 i j li lj h x (by rw [ei]; exact hx) y (by rw [ej]; exact hy)
    · exact fun e => List.pairwise_iff_getElem.mp h4 j i lj li h y (by rw [ej]; exact hy) x (by rw [ei]; exact hx) e.symm
theorem wc_free {A : Nat → Prop} {wc : va_W} {H0 H : Heap} {locs : List Loc} (hDc : va_D A wc) (hS : va_S A H0 H locs) (hA : ∀ q, H0.size ≤ q → A q) : ∀ q, va_A wc H.size q → A q := by
  intro q h
  rcases h with ⟨k, e, h⟩ | h
  · exact hDc.2 k _ h
  · exact hA q (Nat.le_trans hS.1 h)
theorem wk_mem {ws wk : va_W} (is : List Nat) (hC : is.map (fun i => ws[i]?) = wk.map some) : ∀ q ∈ wk, q ∈ ws := by
  intro q hq
  obtain ⟨k, hk⟩ := List.mem_iff_getElem?.mp hq
  obtain ⟨i, -, hi⟩ := wc_at hC k q hk
  exact List.mem_of_getElem? hi
theorem wk_memC {Ms Ks cks : List va_W} (is : List Nat) (hC : is.map (fun i => (Ms ++ Ks)[i]?) = cks.map some) : ∀ q ∈ cks.flatten, q ∈ Ms.flatten ++ Ks.flatten := fun q hq => by rw [← List.flatten_append]; exact wc_in hC q hq
def zsetG {α : Type} : List α → List Nat → List α → List α
  | ws, i :: is, x :: xs => zsetG (ws.set i x) is xs
  | ws, _, _ => ws
theorem zsetG_get {α : Type} : ∀ (is : List Nat) (xs ws : List α), va_nd is = true → ∀ (k : Nat) (q : α), (zsetG ws is xs)[k]? = some q → (∃ j : Nat, is[j]? = some k ∧ xs[j]? = some q) ∨ ((∀ j : Nat, j < xs.length → is[j]? ≠ some k) ∧ ws[k]? = some q)
  | [], xs, ws, _, k, q, h => by
    right
    refine ⟨fun j _ h9 => by simp at h9, ?_⟩
    cases xs <;> exact h
  | i :: is, [], ws, _, k, q, h => by
    right
    exact ⟨fun j hj => absurd hj (Nat.not_lt_zero j), h⟩
  | i :: is, x :: xs, ws, hn, k, q, h => by
    simp only [va_nd, Bool.and_eq_true, decide_eq_true_eq] at hn
    have h' : (zsetG (ws.set i x) is xs)[k]? = some q := h
    rcases zsetG_get is xs (ws.set i x) hn.2 k q h' with ⟨j, h1, h2⟩ | ⟨h1, h2⟩
    · exact Or.inl ⟨j + 1, by simpa using h1, by simpa using h2⟩
    · by_cases e : k = i
      · subst e
        rw [List.getElem?_set] at h2
        simp only [if_true] at h2
        by_cases hl : k < ws.length
        · rw [if_pos hl] at h2
          exact Or.inl ⟨0, by simp, by simpa using h2⟩
        · rw [if_neg hl] at h2; cases h2
      · rw [List.getElem?_set_ne (Ne.symm e)] at h2
        refine Or.inr ⟨fun j hj => ?_, h2⟩
        cases j with
        | zero => intro h9; apply e; simpa using h9.symm
        | succ j => intro h9; exact h1 j (by simpa using hj) (by simpa using h9)
theorem zsetG_map {α β : Type} (f : α → β) : ∀ (is : List Nat) (xs ws : List α), is.map (fun i => (ws[i]?).map f) = xs.map (fun x => some (f x)) → va_nd is = true → (zsetG ws is xs).map f = ws.map f
  | [], xs, ws, _, _ => by cases xs <;> rfl
  | i :: is, [], ws, _, _ => rfl
  | i :: is, x :: xs, ws, h, hn => by
    simp only [List.map_cons, List.cons.injEq] at h
    simp only [va_nd, Bool.and_eq_true, decide_eq_true_eq] at hn
    have hi : ∀ k : Nat, ((ws.set i x)[k]?).map f = (ws[k]?).map f := by
      intro k
      by_cases e : i = k
      · subst e
        rw [List.getElem?_set]
        simp only [if_true]
        by_cases hl : i < ws.length
        · rw [if_pos hl]; exact h.1.symm
        · rw [if_neg hl, List.getElem?_eq_none (Nat.le_of_not_lt hl)]
      · rw [List.getElem?_set_ne e]
    show (zsetG (ws.set i x) is xs).map f = _
    rw [zsetG_map f is xs (ws.set i x) (by rw [← h.2]; exact List.map_congr_left (fun j _ => hi j)) hn.2]
    refine List.ext_getElem? (fun k => ?_)
    rw [List.getElem?_map, List.getElem?_map, hi k]
/-- behind a call that changes whole components: those are as it left them, all others as they were -/
theorem w_callC {A0 : Nat → Prop} {D : va_G} {cl : List vw_C} {Ms Ks cms cms1 : List va_W} {wk : va_W} {H H1 : Heap} (hP : va_P D cl (Ms.flatten ++ Ks.flatten) H) (hD : va_D A0 (Ms.flatten ++ Ks.flatten)) (hk : ∀ q : Nat, q < H.size → ¬ va_A (cms.flatten ++ wk) H.size q → H1[q]? = H[q]?) (hP1 : va_P D cl (cms1.flatten ++ wk) H1)
    (is : List Nat) (hC : is.map (fun i => Ms[i]?) = cms.map some) (hn : va_nd is = true) (hsub : ∀ q ∈ wk, q ∈ Ms.flatten ++ Ks.flatten) (ha : cms1.map (fun w : va_W => w.map (fun z : Nat × va_E => z.1)) = cms.map (fun w : va_W => w.map (fun z : Nat × va_E => z.1))) : va_P D cl ((zsetG Ms is cms1).flatten ++ Ks.flatten) H1 ∧ va_D A0 ((zsetG Ms is cms1).flatten ++ Ks.flatten) := by
  have hlen : cms1.length = cms.length := by simpa using congrArg List.length ha
  have hP1' := wp_iff.mp hP1
  have hPm := wp_iff.mp hP
  have hadr : (zsetG Ms is cms1).map (fun w : va_W => w.map (fun z : Nat × va_E => z.1)) = Ms.map (fun w : va_W => w.map (fun z : Nat × va_E => z.1)) := by
    refine zsetG_map _ is cms1 Ms ?_ hn
    have h1 := congrArg (List.map (Option.map (fun w : va_W => w.map (fun z : Nat × va_E => z.1)))) hC
    rw [List.map_map, List.map_map] at h1
    have h2 := congrArg (List.map some) ha
    rw [List.map_map, List.map_map] at h2
    exact h1.trans h2.symm
  -- a cell that isn't in what changes
  have keep : ∀ q ∈ Ms.flatten ++ Ks.flatten, (∀ q' ∈ cms.flatten, q'.1 ≠ q.1) → va_at D cl q H1 := by
    intro q hq hne
    have hl := (hPm q hq).lt
    by_cases hw : ∃ q' ∈ wk, q'.1 = q.1
    · obtain ⟨q', h1, h2⟩ := hw
      have e := wd_eq hD (hsub q' h1) hq h2
      subst e
      exact hP1' q' (List.mem_append_right _ h1)
    · refine (hPm q hq).kept (hk q.1 hl (fun h => ?_))
      rcases h with ⟨k, e, h⟩ | h
      · rcases List.mem_append.mp (List.mem_of_getElem? h) with h1 | h1
        · exact hne _ h1 rfl
        · exact hw ⟨_, h1, rfl⟩
      · omega
  have hDp := wd_iff.mp hD
  obtain ⟨hpM, hpK, hpX⟩ := List.pairwise_append.mp hDp.1
  obtain ⟨hM1, hM2⟩ := List.pairwise_flatten.mp hpM
  refine ⟨wp_iff.mpr (fun q hq => ?_), wd_adr ?_ hD⟩
  · rcases List.mem_append.mp hq with h | h
    · obtain ⟨c, hc, hqc⟩ := List.mem_flatten.mp h
      obtain ⟨k, hkc⟩ := List.mem_iff_getElem?.mp hc
      rcases zsetG_get is cms1 Ms hn k c hkc with ⟨j, -, h2⟩ | ⟨h1, h2⟩
      · exact hP1' q (List.mem_append_left _ (List.mem_flatten.mpr ⟨c, List.mem_of_getElem? h2, hqc⟩))
      · refine keep q (List.mem_append_left _ (List.mem_flatten.mpr ⟨c, List.mem_of_getElem? h2, hqc⟩)) (fun q' hq' => ?_)
        obtain ⟨c', hc', hqc'⟩ := List.mem_flatten.mp hq'
        obtain ⟨k', hk'⟩ := List.mem_iff_getElem?.mp hc'
        obtain ⟨i, hi, hi2⟩ := wc_at hC k' c' hk'
        have hne : i ≠ k := fun e => by
          subst e
          exact h1 k' (by rw [hlen]; exact (List.getElem?_eq_some_iff.mp hk').1) hi
        obtain ⟨li, ei⟩ := List.getElem?_eq_some_iff.mp hi2
        obtain ⟨lk, ek⟩ := List.getElem?_eq_some_iff.mp h2
        rcases Nat.lt_or_gt_of_ne hne with g | g
        · exact List.pairwise_iff_getElem.mp hM2 i k li lk g q' (by rw [ei]; exact hqc') q (by rw [ek]; exact hqc)
        · exact fun e => List.pairwise_iff_getElem.mp hM2 k i lk li g q (by rw [ek]; exact hqc) q' (by rw [ei]; exact hqc') e.symm
    · exact keep q (List.mem_append_right _ h) (fun q' hq' => hpX q' (wc_in hC q' hq') q h)
  · rw [List.map_append, List.map_append]
    refine congrArg (fun z => z ++ _) ?_
    rw [List.map_flatten, List.map_flatten]
    exact congrArg List.flatten hadr
theorem zand (x : Int32) {m : Int32} (k N : Nat) (hm : m.toBitVec.toNat = 2 ^ k - 1) (hN : 2 ^ k = N) (hb : N ≤ 1073741824) : 0 ≤ (x &&& m).toInt ∧ (x &&& m).toInt ≤ (N : Int) - 1 := by
  obtain ⟨j, hj, e⟩ := pk_andE x k hm
  rw [hN] at hj
  rw [e, nI_toInt (by omega)]
  omega
/-- a list some of whose entries are others now: which, a recipe tells -/
def zrec {α : Type} : List α → List α → List (Option Nat) → List α
  | m :: Ms, xs, none :: rs => m :: zrec Ms xs rs
  | m :: Ms, xs, some j :: rs => (xs[j]?).getD m :: zrec Ms xs rs
  | _, _, _ => []
def zone {α : Type} (xs : List α) (m : α) : Option Nat → α
  | none => m
  | some j => (xs[j]?).getD m
theorem zrec_get {α : Type} : ∀ (Ms xs : List α) (r : List (Option Nat)) (k : Nat) (c : α), (zrec Ms xs r)[k]? = some c → ∃ (m : α) (o : Option Nat), Ms[k]? = some m ∧ r[k]? = some o ∧ c = zone xs m o
  | [], xs, r, k, c, h => by simp [zrec] at h
  | m :: Ms, xs, [], k, c, h => by simp [zrec] at h
  | m :: Ms, xs, none :: rs, 0, c, h => ⟨m, none, rfl, rfl, (Option.some.inj h).symm⟩
  | m :: Ms, xs, some j :: rs, 0, c, h => ⟨m, some j, rfl, rfl, (Option.some.inj h).symm⟩
  | m :: Ms, xs, none :: rs, k + 1, c, h => zrec_get Ms xs rs k c h
  | m :: Ms, xs, some j :: rs, k + 1, c, h => zrec_get Ms xs rs k c h
theorem zrec_len {α : Type} : ∀ (Ms xs : List α) (r : List (Option Nat)), r.length = Ms.length → (zrec Ms xs r).length = Ms.length
  | [], xs, r, h => by cases r <;> rfl
  | m :: Ms, xs, [], h => by simp at h
  | m :: Ms, xs, none :: rs, h => congrArg Nat.succ (zrec_len Ms xs rs (Nat.succ.inj h))
  | m :: Ms, xs, some j :: rs, h => congrArg Nat.succ (zrec_len Ms xs rs (Nat.succ.inj h))
theorem zsetG_len {α : Type} : ∀ (is : List Nat) (xs ws : List α), (zsetG ws is xs).length = ws.length
  | [], xs, ws => by cases xs <;> rfl
  | i :: is, [], ws => rfl
  | i :: is, x :: xs, ws => by
    show (zsetG (ws.set i x) is xs).length = ws.length
    rw [zsetG_len is xs, List.length_set]
def rchk (is : List Nat) (n : Nat) : List (Option Nat) → Nat → Bool
  | [], _ => true
  | none :: rs, k => !(is.contains k) && rchk is n rs (k + 1)
  | some j :: rs, k => (decide (is[j]? = some k) && decide (j < n)) && rchk is n rs (k + 1)
def rone (is : List Nat) (n k : Nat) : Option Nat → Prop
  | none => ∀ j : Nat, is[j]? ≠ some k
  | some j => is[j]? = some k ∧ j < n
theorem rchk_at {is : List Nat} {n : Nat} : ∀ (r : List (Option Nat)) (b k : Nat) (o : Option Nat), rchk is n r b = true → r[k]? = some o → rone is n (b + k) o
  | [], b, k, o, _, h => by simp at h
  | none :: rs, b, 0, o, h, e => by
    obtain rfl := Option.some.inj e
    simp only [rchk, Bool.and_eq_true, Bool.not_eq_true'] at h
    intro j hj
    have h2 := List.mem_of_getElem? hj
    have h3 : is.contains b = true := List.contains_iff_mem.mpr (by simpa using h2)
    rw [h.1] at h3
    cases h3
  | some j :: rs, b, 0, o, h, e => by
    obtain rfl := Option.some.inj e
    simp only [rchk, Bool.and_eq_true, decide_eq_true_eq] at h
    exact ⟨h.1.1, h.1.2⟩
  | none :: rs, b, k + 1, o, h, e => by
    simp only [rchk, Bool.and_eq_true] at h
    have h2 := rchk_at rs (b + 1) k o h.2 e
    rw [show b + 1 + k = b + (k + 1) by omega] at h2
    exact h2
  | some j :: rs, b, k + 1, o, h, e => by
    simp only [rchk, Bool.and_eq_true] at h
    have h2 := rchk_at rs (b + 1) k o h.2 e
    rw [show b + 1 + k = b + (k + 1) by omega] at h2
    exact h2
theorem zset_rec {α : Type} (Ms : List α) (is : List Nat) (xs : List α) (r : List (Option Nat)) (hn : va_nd is = true) (hr : rchk is xs.length r 0 = true) (hl : r.length = Ms.length) : zsetG Ms is xs = zrec Ms xs r := by
  refine List.ext_getElem? (fun k => ?_)
  by_cases hk : k < Ms.length
  · obtain ⟨c, hc⟩ : ∃ c, (zsetG Ms is xs)[k]? = some c := ⟨_, List.getElem?_eq_getElem (by rw [zsetG_len]; exact hk)⟩
    obtain ⟨d, hd⟩ : ∃ d, (zrec Ms xs r)[k]? = some d := ⟨_, List.getElem?_eq_getElem (by rw [zrec_len Ms xs r hl]; exact hk)⟩
    obtain ⟨m, o, hm, ho, e⟩ := zrec_get Ms xs r k d hd
    have h1 := rchk_at r 0 k o hr ho
    rw [Nat.zero_add] at h1
    rw [hc, hd]
    refine congrArg some ?_
    rcases zsetG_get is xs Ms hn k c hc with ⟨j, hj, hx⟩ | ⟨h2, h3⟩
    · cases o with
      | none => exact absurd hj (h1 j)
      | some j' =>
        have hjj : j = j' := va_nd_inj is hn j j' k hj h1.1
        subst hjj
        rw [e]
        show c = (xs[j]?).getD m
        rw [hx]
        rfl
    · cases o with
      | none =>
        rw [e]
        rw [hm] at h3
        exact (Option.some.inj h3).symm
      | some j' => exact absurd h1.1 (h2 j' h1.2)
  · rw [List.getElem?_eq_none (by rw [zsetG_len]; omega), List.getElem?_eq_none (by rw [zrec_len Ms xs r hl]; omega)]
theorem w_callR {A0 : Nat → Prop} {D : va_G} {cl : List vw_C} {Ms Ks cms cms1 : List va_W} {wk : va_W} {H H1 : Heap} (hP : va_P D cl (Ms.flatten ++ Ks.flatten) H) (hD : va_D A0 (Ms.flatten ++ Ks.flatten)) (hk : ∀ q : Nat, q < H.size → ¬ va_A (cms.flatten ++ wk) H.size q → H1[q]? = H[q]?) (hP1 : va_P D cl (cms1.flatten ++ wk) H1)
    (is : List Nat) (hC : is.map (fun i => Ms[i]?) = cms.map some) (hn : va_nd is = true) (hsub : ∀ q ∈ wk, q ∈ Ms.flatten ++ Ks.flatten) (ha : cms1.map (fun w : va_W => w.map (fun z : Nat × va_E => z.1)) = cms.map (fun w : va_W => w.map (fun z : Nat × va_E => z.1))) (r : List (Option Nat)) (hr : rchk is cms1.length r 0 = true) (hl : r.length = Ms.length) : va_P D cl ((zrec Ms cms1 r).flatten ++ Ks.flatten) H1 ∧ va_D A0 ((zrec Ms cms1 r).flatten ++ Ks.flatten) := by
  rw [← zset_rec Ms is cms1 r hn hr hl]
  exact w_callC hP hD hk hP1 is hC hn hsub ha
def tK (k : Nat → ClassId) : List (ClassId × FieldType) := [(k 0, .int), (k 1, .long), (k 2, .byte), (k 3, .boolean), (k 4, .object RX2), (k 5, .object RX7), (k 6, .object RX6), (k 7, .object RX1)]
def wMem (q : Nat → Nat) (k : Nat → ClassId) (n : Nat → Int32) (a : Nat → Nat → Int32) : va_W := [((q 0), .inr (2, [.ref (q 1), .ref (q 2), .int (n 0)])), ((q 1), .inl ((k 0), 8, .inl (a 0))), ((q 2), .inl ((k 0), 8, .inl (a 1)))]
def wState (q : Nat → Nat) (k : Nat → ClassId) (v : Nat → Int32) (n : Nat → Int32) (a : Nat → Nat → Int32) : va_W := [((q 0), .inr (7, [.ref (q 1), .int (v 0), .int (v 1), .int (v 2), .int (v 3), .int (v 4), .int (v 5), .int (v 6), .int (v 7)])), ((q 1), .inl ((k 4), 3, .inr (.inr (.inr (.inr (va_up (va_up (va_up (fun _ => none) 0 (some (q 2))) 1 (some (q 5))) 2 (some (q 8)))))))), ((q 2), .inr (2, [.ref (q 3), .ref (q 4), .int (n 0)])), ((q 3), .inl ((k 0), 8, .inl (a 0))), ((q 4), .inl ((k 0), 8, .inl (a 1))), ((q 5), .inr (2, [.ref (q 6), .ref (q 7), .int (n 1)])), ((q 6), .inl ((k 0), 8, .inl (a 2))), ((q 7), .inl ((k 0), 8, .inl (a 3))), ((q 8), .inr (2, [.ref (q 9), .ref (q 10), .int (n 2)])), ((q 9), .inl ((k 0), 8, .inl (a 4))), ((q 10), .inl ((k 0), 8, .inl (a 5)))]
def wValley (q : Nat → Nat) (k : Nat → ClassId) (v : Nat → Int32) (b : Nat → Int32) (c : Nat → Int32) (w : Nat → Int32) (a : Nat → Nat → Int32) (e : Nat → Nat → Int32) : va_W := [((q 0), .inr (10, [.ref (q 1), .ref (q 2), .ref (q 3), .ref (q 4), .ref (q 5), .ref (q 6), .ref (q 7), .int (v 0), .int (v 1), .int (v 2), .int (v 3), .int (b 0), .int (c 0), .int (w 0), .int (v 4), .int (v 5)])), ((q 1), .inl ((k 0), 3, .inl (a 0))), ((q 2), .inl ((k 0), 3, .inl (a 1))), ((q 3), .inl ((k 0), 7, .inl (e 0))), ((q 4), .inl ((k 0), 7, .inl (a 2))), ((q 5), .inl ((k 0), 5, .inl (a 3))), ((q 6), .inl ((k 0), 5, .inl (a 4))), ((q 7), .inl ((k 0), 5, .inl (a 5)))]
def wPlan (q : Nat → Nat) (k : Nat → ClassId) (v : Nat → Int32) (a : Nat → Nat → Int32) (e : Nat → Nat → Int32) : va_W := [((q 0), .inr (3, [.ref (q 1), .ref (q 2), .int (v 0), .int (v 1)])), ((q 1), .inl ((k 0), 7, .inl (e 0))), ((q 2), .inl ((k 0), 7, .inl (a 0)))]
def wActs (q : Nat → Nat) (k : Nat → ClassId) (d : Nat → Int32) (a : Nat → Nat → Int32) : va_W := [((q 0), .inr (0, [.ref (q 1), .ref (q 2), .ref (q 3), .int (d 0)])), ((q 1), .inl ((k 0), 30, .inl (a 0))), ((q 2), .inl ((k 0), 30, .inl (a 1))), ((q 3), .inl ((k 0), 30, .inl (a 2)))]
def wTape (q : Nat → Nat) (k : Nat → ClassId) (read : Nat) (v : Nat → Int32) (t : Nat → Int32) (a : Nat → Nat → Int32) : va_W := [((q 0), .inr (9, [.ref (q 1), .ref read, .int (t 0), .int (v 0), .int (v 1), .int (t 1), .int (v 2), .int (t 2), .int (v 3), .int (v 4)])), ((q 1), .inl ((k 0), 700, .inl (a 0)))]
def wStoO (q : Nat → Nat) (k : Nat → ClassId) (valley plan s0 s1 s2 s3 s4 s5 s6 s7 : Nat) : va_W := [((q 0), .inr (8, [.ref valley, .ref plan, .ref s0, .ref (q 1)])), ((q 1), .inl ((k 5), 7, .inr (.inr (.inr (.inr (va_up (va_up (va_up (va_up (va_up (va_up (va_up (fun _ => none) 0 (some s1)) 1 (some s2)) 2 (some s3)) 3 (some s4)) 4 (some s5)) 5 (some s6)) 6 (some s7)))))))]
def wSearch (q : Nat → Nat) (k : Nat → ClassId) (v : Nat → Int32) (a : Nat → Nat → Int32) : va_W := [((q 0), .inr (4, [.ref (q 1), .ref (q 2), .int (v 0), .int (v 1), .int (v 2), .int (v 3)])), ((q 1), .inl ((k 0), 7, .inl (a 0))), ((q 2), .inl ((k 0), 7, .inl (a 1)))]
def wSets (q : Nat → Nat) (k : Nat → ClassId) (v : Nat → Int32) (c : Nat → Int32) (a : Nat → Nat → Int32) : va_W := [((q 0), .inr (5, [.ref (q 1), .int (c 0), .int (v 0), .int (v 1), .int (v 2), .int (v 3)])), ((q 1), .inl ((k 0), 7, .inl (a 0)))]
def wSlot (q : Nat → Nat) (k : Nat → ClassId) (v : Nat → Int32) (s : Nat → Int32) (l : Nat → Nat → Int64) : va_W := [((q 0), .inr (6, [.ref (q 1), .int (v 0), .int (v 1), .int (s 0)])), ((q 1), .inl ((k 1), 60, .inr (.inl (l 0))))]
def wImage (q : Nat → Nat) (k : Nat → ClassId) (valley acts : Nat) (v : Nat → Int32) : va_W := [((q 0), .inr (1, [.ref valley, .ref acts, .int (v 0)]))]
def wSag (q : Nat → Nat) (k : Nat → ClassId) (tape told acts now trial story attempt orderSearch routeSearch setSearch probe slot0 slot1 slot2 slot3 image0 image1 image2 : Nat) (a : Nat → Nat → Int32) : va_W := [((q 0), .inr (11, [.ref tape, .ref told, .ref acts, .ref now, .ref trial, .ref story, .ref attempt, .ref orderSearch, .ref routeSearch, .ref setSearch, .ref probe, .ref (q 1), .ref (q 2), .ref (q 3), .ref (q 4)])), ((q 1), .inl ((k 0), 9, .inl (a 0))), ((q 2), .inl ((k 0), 9, .inl (a 1))), ((q 3), .inl ((k 6), 4, .inr (.inr (.inr (.inr (va_up (va_up (va_up (va_up (fun _ => none) 0 (some slot0)) 1 (some slot1)) 2 (some slot2)) 3 (some slot3))))))), ((q 4), .inl ((k 7), 3, .inr (.inr (.inr (.inr (va_up (va_up (va_up (fun _ => none) 0 (some image0)) 1 (some image1)) 2 (some image2)))))))]
def zIx (i : Nat) : Nat := (cond (Nat.ble 7 i) (cond (Nat.ble 10 i) (cond (Nat.ble 12 i) (cond (Nat.ble 13 i) 157 143) (cond (Nat.ble 11 i) 141 136)) (cond (Nat.ble 8 i) (cond (Nat.ble 9 i) 76 125) 71)) (cond (Nat.ble 3 i) (cond (Nat.ble 5 i) (cond (Nat.ble 6 i) 114 110) (cond (Nat.ble 4 i) 63 103)) (cond (Nat.ble 1 i) (cond (Nat.ble 2 i) 81 90) 51)))
def zTx (i : Nat) : String := (cond (Nat.ble 7 i) (cond (Nat.ble 10 i) (cond (Nat.ble 12 i) (cond (Nat.ble 13 i) "at" "halt") (cond (Nat.ble 11 i) "to" "over")) (cond (Nat.ble 8 i) (cond (Nat.ble 9 i) "ward" "by") "cart")) (cond (Nat.ble 3 i) (cond (Nat.ble 5 i) (cond (Nat.ble 6 i) "toll" "holds") (cond (Nat.ble 4 i) "bridge" "odds")) (cond (Nat.ble 1 i) (cond (Nat.ble 2 i) "frost" "law") "valley")))
/-- the String constants as the machine has them, and two statics of the JDK -/
def Zt (adK adV ln : Nat → Nat) (by9 : Nat → Nat → Int32) (A : Nat → Prop) (U : State) (H : Heap) : Prop := (∀ i : Nat, i < 14 → va_O "java/lang/String" (adK i) A U H ∧ va_OF "java/lang/String" "coder" "B" (.int 0) (adK i) A U H ∧ va_OF "java/lang/String" "value" "[B" (.ref (adV i)) (adK i) A U H ∧ va_T .byte (adV i) (ln i) (fun j => .int (by9 i j)) A U H ∧ ln i < 100) ∧ va_Z "java/lang/String" "COMPACT_STRINGS" "Z" (.int 1) A U H ∧ va_Zq "jdk/internal/util/Preconditions" "SIOOBE_FORMATTER" "Ljava/util/function/BiFunction;" A U H ∧ ∀ i : Nat, i < 14 → vk_R "SagMemory$Tape" (zIx i) (zTx i) (adK i) U
theorem Zt.pass {adK adV ln : Nat → Nat} {by9 : Nat → Nat → Int32} {A B : Nat → Prop} {s U : State} {H : Heap} {locs : List Loc} (h : Zt adK adV ln by9 A s s.heap) (hS : va_S A s.heap H locs) (hU : U.heap = H) (hW : s.WarmedH U.vm) (hB : ∀ q, B q → A q) : Zt adK adV ln by9 B U U.heap := by
  rw [hU]
  refine ⟨fun i hi => ?_, ((h.2.1.kept hS.2.1).moved hW.alike).narrow hB, ((h.2.2.1.kept hS.2.1).moved hW.alike).narrow hB, fun i hi => vk_R.warm hW (h.2.2.2 i hi)⟩
  obtain ⟨h1, h2, h3, h4, h5⟩ := h.1 i hi
  exact ⟨(va_O.moved hW.alike (h1.kept hS.2.1)).narrow hB, (va_OF.moved hW.alike (h2.kept hS.2.1)).narrow hB, (va_OF.moved hW.alike (h3.kept hS.2.1)).narrow hB, (va_T.moved hW.alike (h4.kept hS.2.1)).narrow hB, h5⟩
theorem Zt.calling {adK adV ln : Nat → Nat} {by9 : Nat → Nat → Int32} {A : Nat → Prop} {U : State} {g : JFrame} {mk : MethodId} {a : Array Value} (h : Zt adK adV ln by9 A U U.heap) : Zt adK adV ln by9 A (U.calling g mk a) (U.calling g mk a).heap := by
  have hv : U.vm.Alike (U.calling g mk a).vm := Vm.Alike.refl U.vm
  refine ⟨fun i hi => ?_, va_Z.moved hv h.2.1, va_Zq.moved hv h.2.2.1, fun i hi => vk_R.same rfl (h.2.2.2 i hi)⟩
  obtain ⟨h1, h2, h3, h4, h5⟩ := h.1 i hi
  exact ⟨va_O.moved hv h1, va_OF.moved hv h2, va_OF.moved hv h3, va_T.moved hv h4, h5⟩
theorem zt_recv {adK adV ln : Nat → Nat} {by9 : Nat → Nat → Int32} {A : Nat → Prop} {s : State} {H : Heap} {locs : List Loc} {i : Nat} (h : Zt adK adV ln by9 A s s.heap) (hi : i < 14) (hS : va_S A s.heap H locs) : ∃ cell : Cell, H[adK i]? = some cell ∧ cell.vm.isStatics = false ∧ s.vm.findClass "java/lang/String" = some cell.cls := by
  obtain ⟨cell, h1, h2, h3, -⟩ := (h.1 i hi).1.kept hS.2.1
  exact ⟨cell, h1, h2, h3⟩
theorem zch_nar {x : Int32} (h0 : 0 ≤ x.toInt) (h1 : x.toInt ≤ 65535) : narrow .char (.int x) = .int x := by
  obtain ⟨j, hj, rfl⟩ := nI_of (x := x) (fun h => by have := zi_lt.mp h; have h8 : x.toInt < (0 : Int) := this; omega)
  rw [nI_toInt hj] at h1
  exact (pk_charN (by omega)).1
theorem zi2c (x : Int32) : 0 ≤ ((x.toUInt32 % 65536).toInt32).toInt ∧ ((x.toUInt32 % 65536).toInt32).toInt ≤ 65535 := by
  rw [pk_char, nI_toInt (by omega)]
  omega
