/-- a list some of whose entries are others now: which, a recipe tells -/
def zrec {α : Type} : List α → List α → List (Option Nat) → List α
  | m :: Ms, xs, none :: rs => m :: zrec Ms xs rs
  | m :: Ms, xs, some j :: rs => (xs[j]?).getD m :: zrec Ms xs rs
  | _, _, _ => []
def zone {α : Type} (xs : List α) (m : α) : Option Nat → α
  | none => m
  | some j => (xs[j]?).getD m
theorem zrec_get {α : Type} : ∀ (Ms xs : List α) (r : List (Option Nat)) (k : Nat) (c : α), (zrec Ms xs r)[k]? = some c → ∃ (m : α) (o : Option Nat), Ms[k]? = some m ∧ r[k]? = some o ∧ c = zone xs m o
  | [], xs, r, k, c, h => by simp [zrec] at h
  | m :: Ms, xs, [], k, c, h => by simp [zrec] at h
  | m :: Ms, xs, none :: rs, 0, c, h => ⟨m, none, rfl, rfl, (Option.some.inj h).symm⟩
  | m :: Ms, xs, some j :: rs, 0, c, h => ⟨m, some j, rfl, rfl, (Option.some.inj h).symm⟩
  | m :: Ms, xs, none :: rs, k + 1, c, h => zrec_get Ms xs rs k c h
  | m :: Ms, xs, some j :: rs, k + 1, c, h => zrec_get Ms xs rs k c h
theorem zrec_len {α : Type} : ∀ (Ms xs : List α) (r : List (Option Nat)), r.length = Ms.length → (zrec Ms xs r).length = Ms.length
  | [], xs, r, h => by cases r <;> rfl
  | m :: Ms, xs, [], h => by simp at h
  | m :: Ms, xs, none :: rs, h => congrArg Nat.succ (zrec_len Ms xs rs (Nat.succ.inj h))
  | m :: Ms, xs, some j :: rs, h => congrArg Nat.succ (zrec_len Ms xs rs (Nat.succ.inj h))
theorem zsetG_len {α : Type} : ∀ (is : List Nat) (xs ws : List α), (zsetG ws is xs).length = ws.length
  | [], xs, ws => by cases xs <;> rfl
  | i :: is, [], ws => rfl
  | i :: is, x :: xs, ws => by
    show (zsetG (ws.set i x) is xs).length = ws.length
    rw [zsetG_len is xs, List.length_set]
def rchk (is : List Nat) (n : Nat) : List (Option Nat) → Nat → Bool
  | [], _ => true
  | none :: rs, k => !(is.contains k) && rchk is n rs (k + 1)
  | some j :: rs, k => (decide (is[j]? = some k) && decide (j < n)) && rchk is n rs (k + 1)
def rone (is : List Nat) (n k : Nat) : Option Nat → Prop
  | none => ∀ j : Nat, is[j]? ≠ some k
  | some j => is[j]? = some k ∧ j < n
theorem rchk_at {is : List Nat} {n : Nat} : ∀ (r : List (Option Nat)) (b k : Nat) (o : Option Nat), rchk is n r b = true → r[k]? = some o → rone is n (b + k) o
  | [], b, k, o, _, h => by simp at h
  | none :: rs, b, 0, o, h, e => by
    obtain rfl := Option.some.inj e
    simp only [rchk, Bool.and_eq_true, Bool.not_eq_true'] at h
    intro j hj
    have h2 := List.mem_of_getElem? hj
    have h3 : is.contains b = true := List.contains_iff_mem.mpr (by simpa using h2)
    rw [h.1] at h3
    cases h3
  | some j :: rs, b, 0, o, h, e => by
    obtain rfl := Option.some.inj e
    simp only [rchk, Bool.and_eq_true, decide_eq_true_eq] at h
    exact ⟨h.1.1, h.1.2⟩
  | none :: rs, b, k + 1, o, h, e => by
    simp only [rchk, Bool.and_eq_true] at h
    have h2 := rchk_at rs (b + 1) k o h.2 e
    rw [show b + 1 + k = b + (k + 1) by omega] at h2
    exact h2
  | some j :: rs, b, k + 1, o, h, e => by
    simp only [rchk, Bool.and_eq_true] at h
    have h2 := rchk_at rs (b + 1) k o h.2 e
    rw [show b + 1 + k = b + (k + 1) by omega] at h2
    exact h2
theorem zset_rec {α : Type} (Ms : List α) (is : List Nat) (xs : List α) (r : List (Option Nat)) (hn : va_nd is = true) (hr : rchk is xs.length r 0 = true) (hl : r.length = Ms.length) : zsetG Ms is xs = zrec Ms xs r := by
  refine List.ext_getElem? (fun k => ?_)
  by_cases hk : k < Ms.length
  · obtain ⟨c, hc⟩ : ∃ c, (zsetG Ms is xs)[k]? = some c := ⟨_, List.getElem?_eq_getElem (by rw [zsetG_len]; exact hk)⟩
    obtain ⟨d, hd⟩ : ∃ d, (zrec Ms xs r)[k]? = some d := ⟨_, List.getElem?_eq_getElem (by rw [zrec_len Ms xs r hl]; exact hk)⟩
    obtain ⟨m, o, hm, ho, e⟩ := zrec_get Ms xs r k d hd
    have h1 := rchk_at r 0 k o hr ho
    rw [Nat.zero_add] at h1
    rw [hc, hd]
    refine congrArg some ?_
    rcases zsetG_get is xs Ms hn k c hc with ⟨j, hj, hx⟩ | ⟨h2, h3⟩
    · cases o with
      | none => exact absurd hj (h1 j)
      | some j' =>
        have hjj : j = j' := va_nd_inj is hn j j' k hj h1.1
        subst hjj
        rw [e]
        show c = (xs[j]?).getD m
        rw [hx]
        rfl
    · cases o with
      | none =>
        rw [e]
        rw [hm] at h3
        exact (Option.some.inj h3).symm
      | some j' => exact absurd h1.1 (h2 j' h1.2)
  · rw [List.getElem?_eq_none (by rw [zsetG_len]; omega), List.getElem?_eq_none (by rw [zrec_len Ms xs r hl]; omega)]
theorem w_callR {A0 : Nat → Prop} {D : va_G} {cl : List vw_C} {Ms Ks cms cms1 : List va_W} {wk : va_W} {H H1 : Heap} (hP : va_P D cl (Ms.flatten ++ Ks.flatten) H) (hD : va_D A0 (Ms.flatten ++ Ks.flatten)) (hk : ∀ q : Nat, q < H.size → ¬ va_A (cms.flatten ++ wk) H.size q → H1[q]? = H[q]?) (hP1 : va_P D cl (cms1.flatten ++ wk) H1)
    (is : List Nat) (hC : is.map (fun i => Ms[i]?) = cms.map some) (hn : va_nd is = true) (hsub : ∀ q ∈ wk, q ∈ Ms.flatten ++ Ks.flatten) (ha : cms1.map (fun w : va_W => w.map (fun z : Nat × va_E => z.1)) = cms.map (fun w : va_W => w.map (fun z : Nat × va_E => z.1))) (r : List (Option Nat)) (hr : rchk is cms1.length r 0 = true) (hl : r.length = Ms.length) : va_P D cl ((zrec Ms cms1 r).flatten ++ Ks.flatten) H1 ∧ va_D A0 ((zrec Ms cms1 r).flatten ++ Ks.flatten) := by
  rw [← zset_rec Ms is cms1 r hn hr hl]
  exact w_callC hP hD hk hP1 is hC hn hsub ha
