theorem fl_set {α : Type} (pre post : List (List α)) (c c' : α) : ((pre ++ [c] :: post).flatten).set pre.flatten.length c' = (pre ++ [c'] :: post).flatten := by
  rw [List.flatten_append, List.flatten_append, List.set_append_right _ _ (Nat.le_refl _), Nat.sub_self]
  rfl
theorem fl_get {α : Type} (pre post : List (List α)) (w : List α) (i : Nat) {x : α} (h : w[i]? = some x) : ((pre ++ w :: post).flatten)[pre.flatten.length + i]? = some x := by
  rw [List.flatten_append, List.getElem?_append_right (Nat.le_add_right _ _), Nat.add_sub_cancel_left, List.flatten_cons, List.getElem?_append_left ((List.getElem?_eq_some_iff.mp h).1)]
  exact h
theorem fl_get0 {α : Type} (pre post : List (List α)) (c : α) : ((pre ++ [c] :: post).flatten)[pre.flatten.length]? = some c := fl_get pre post [c] 0 rfl
theorem fl_setP {D : va_G} {cl : List vw_C} {H : Heap} (pre post : List va_W) (c c' : Nat × va_E) (h : va_P D cl (((pre ++ [c] :: post).flatten).set pre.flatten.length c') H) : va_P D cl ((pre ++ [c'] :: post).flatten) H := by
  rw [fl_set] at h; exact h
theorem fl_setD {A : Nat → Prop} (pre post : List va_W) (c c' : Nat × va_E) (h : va_D A (((pre ++ [c] :: post).flatten).set pre.flatten.length c')) : va_D A ((pre ++ [c'] :: post).flatten) := by
  rw [fl_set] at h; exact h
theorem fl_push {α : Type} (Ks : List (List α)) (x : α) : Ks.flatten ++ [x] = (Ks ++ [[x]]).flatten := by
  rw [List.flatten_append]; rfl
theorem fl_pushP {D : va_G} {cl : List vw_C} {H : Heap} (Ks : List va_W) {x : Nat × va_E} (h : va_P D cl (Ks.flatten ++ [x]) H) : va_P D cl ((Ks ++ [[x]]).flatten) H := by
  rw [fl_push] at h; exact h
theorem fl_pushD {A : Nat → Prop} (Ks : List va_W) {x : Nat × va_E} (h : va_D A (Ks.flatten ++ [x])) : va_D A ((Ks ++ [[x]]).flatten) := by
  rw [fl_push] at h; exact h
theorem fl_lastP {D : va_G} {cl : List vw_C} {H : Heap} (Ks : List va_W) {x : Nat × va_E} (h : va_P D cl ((Ks ++ [[x]]).flatten) H) : va_P D cl [x] H := wp_iff.mpr (fun q hq => wp_iff.mp h q (by rw [List.flatten_append]; exact List.mem_append_right _ (by simpa using hq)))
theorem fl_lastD {A : Nat → Prop} (Ks : List va_W) {x : Nat × va_E} (h : va_D A ((Ks ++ [[x]]).flatten)) : va_D A [x] := wd_iff.mpr ⟨List.pairwise_singleton _ _, fun q hq => (wd_iff.mp h).2 q (by rw [List.flatten_append]; exact List.mem_append_right _ (by simpa using hq))⟩
/-- a new object is made ready: its cells stand beside the others -/
theorem wj_last {A0 : Nat → Prop} {D : va_G} {cl : List vw_C} (Ks Ls : List va_W) {x : Nat × va_E} {H H1 : Heap} (hP : va_P D cl ((Ks ++ [[x]]).flatten) H) (hD : va_D A0 ((Ks ++ [[x]]).flatten)) (hk : ∀ q : Nat, q < H.size → ¬ va_A [x] H.size q → H1[q]? = H[q]?) (hF : ∀ q, va_A [x] H.size q → A0 q) (hP1 : va_P D cl Ls.flatten H1) (hD1 : va_D (va_A [x] H.size) Ls.flatten) :
    va_P D cl ((Ks ++ Ls).flatten) H1 ∧ va_D A0 ((Ks ++ Ls).flatten) := by
  rw [List.flatten_append] at hP hD
  rw [List.flatten_append]
  have e1 : List.flatten [[x]] = [x] := rfl
  rw [e1] at hP hD
  have hPm := wp_iff.mp hP
  have hP1m := wp_iff.mp hP1
  obtain ⟨d1, d2⟩ := wd_iff.mp hD
  obtain ⟨g1, g2⟩ := wd_iff.mp hD1
  obtain ⟨p1, p2, p3⟩ := List.pairwise_append.mp d1
  have hne : ∀ q ∈ Ks.flatten, q.1 ≠ x.1 := fun q hq => p3 q hq x (List.mem_singleton.mpr rfl)
  have hlt : ∀ q ∈ Ks.flatten, q.1 < H.size := fun q hq => (hPm q (List.mem_append_left _ hq)).lt
  have hout : ∀ q ∈ Ks.flatten, ¬ va_A [x] H.size q.1 := by
    intro q hq h
    rcases h with ⟨k, e, h⟩ | h
    · have h2 := List.mem_singleton.mp (List.mem_of_getElem? h)
      exact hne q hq (by rw [← h2])
    · have := hlt q hq
      omega
  refine ⟨wp_iff.mpr (fun q hq => ?_), wd_iff.mpr ⟨List.pairwise_append.mpr ⟨p1, g1, fun a ha b hb e => hout a ha (by rw [e]; exact g2 b hb)⟩, fun q hq => ?_⟩⟩
  · rcases List.mem_append.mp hq with h | h
    · exact (hPm q (List.mem_append_left _ h)).kept (hk q.1 (hlt q h) (hout q h))
    · exact hP1m q h
  · rcases List.mem_append.mp hq with h | h
    · exact d2 q (List.mem_append_left _ h)
    · exact hF q.1 (g2 q h)
theorem va_RA_inj {U : State} {c1 c2 : ClassId} {ty : FieldType} (h1 : va_RA U c1 ty) (h2 : va_RA U c2 ty) : c1 = c2 := by
  cases ty with
  | object C =>
    obtain ⟨kA, comp, -, -, -, a⟩ := h1
    obtain ⟨kB, comp2, -, -, -, b⟩ := h2
    exact Option.some.inj (a.symm.trans b)
  | _ =>
    exact Option.some.inj (Eq.trans (Eq.symm h1) h2)
theorem va_K_last {D : va_G} {cl : List vw_C} {tys : List (ClassId × FieldType)} {U : State} {cA cK : ClassId} {ty : FieldType} (h : va_K D cl (tys ++ [(cA, ty)]) U) (hK : va_K D cl tys U) (t0 : Nat) (ht : tys[t0]? = some (cK, ty)) : cA = cK := va_RA_inj (h.2 tys.length _ (by rw [List.getElem?_append_right (Nat.le_refl _), Nat.sub_self]; rfl)).2 (hK.2 t0 _ ht).2
section
variable {p : Program} {l : Launch} {e : Env} {R : Room} {s : State} {m : MethodId} {args : Array Value} {below : List Frame} {meth : Method} {c : Code} {H : Heap} {locs : List Loc} {cells slots : Nat} {Q : State → Prop}
variable {cc : ByteArray} {pc : Nat} {ls : Array Slot} {rest : List Value} {D : va_G} {cl : List vw_C} {A : Nat → Prop} {tys : List (ClassId × FieldType)} {ws : va_W} {H0 : Heap}
/-- a new row of numbers, its class being known -/
theorem za_newa (hexec : p.tables.exec = Jvm.exec) (hb : c.code = cc) {atype : ArrayType} (harr : (Cond.arrayClass (newarray.typeOf atype)).before args s = true) {ty : FieldType} (hty : newarray.typeOf atype = ty) (hK : va_K D cl tys s) (hP : va_P D cl ws H) (hD : va_D A ws) (hS : va_S A H0 H locs) (hA : ∀ q, H0.size ≤ q → A q) (t0 : Nat) {cK : ClassId} (ht : tys[t0]? = some (cK, ty))
    {n : Int32} {N' : Nat} {a0 : vp_A} (ha : ∀ cA : ClassId, vp_cell cA a0 = arrV cA N' (fun _ => defaultValue ty)) (hn : ¬ n < 0) (hN : n.toNatClampNeg = N') (hbytes : N' * componentBytes ty ≤ 536870912) (hcells : cells + 1 ≤ R.cells) (hslots : slots + N' ≤ R.slots) (hdg : decode cc pc = .ok (.newarray atype, 2))
    (kk : ∀ (q : Nat) (H1 : Heap), va_P D cl (ws ++ [(q, .inl (cK, a0))]) H1 → va_D A (ws ++ [(q, .inl (cK, a0))]) → va_S A H0 H1 locs → W p l e R s m args below meth c H1 locs (cells + 1) (slots + N') Q (F0 m (pc + 2) ls (.ref q :: rest))) : W p l e R s m args below meth c H locs cells slots Q (F0 m pc ls (.int n :: rest)) := by
  refine va_newa (atype := atype) (a0 := a0) hexec hb harr hty hK hP hD hS hA ha hn hN hbytes hcells hslots hdg (fun q cA H1 hK1 hP1 hD1 hS1 => ?_)
  obtain rfl := va_K_last hK1 hK t0 ht
  exact kk q H1 hP1 hD1 hS1
/-- a new row of references, its class being known -/
theorem za_newq (hexec : p.tables.exec = Jvm.exec) (hb : c.code = cc) {own C : String} {index : Nat} (hown : s.vm.findClass own = some m.cls) (hclink : (Cond.classLink own index C).before args s = true) (hover : va_AO C s) (hK : va_K D cl tys s) (hP : va_P D cl ws H) (hD : va_D A ws) (hS : va_S A H0 H locs) (hA : ∀ q, H0.size ≤ q → A q) (t0 : Nat) {cK : ClassId} (ht : tys[t0]? = some (cK, .object C))
    {n : Int32} {N' : Nat} (hn : ¬ n < 0) (hN : n.toNatClampNeg = N') (hbytes : N' * 4 ≤ 536870912) (hcells : cells + 1 ≤ R.cells) (hslots : slots + N' ≤ R.slots) (hdg : decode cc pc = .ok (.anewarray index, 3))
    (kk : ∀ (q : Nat) (H1 : Heap), va_P D cl (ws ++ [(q, .inl (cK, N', .inr (.inr (.inr (.inr (fun _ => none))))))]) H1 → va_D A (ws ++ [(q, .inl (cK, N', .inr (.inr (.inr (.inr (fun _ => none))))))]) → va_S A H0 H1 locs → W p l e R s m args below meth c H1 locs (cells + 1) (slots + N') Q (F0 m (pc + 3) ls (.ref q :: rest))) : W p l e R s m args below meth c H locs cells slots Q (F0 m pc ls (.int n :: rest)) := by
  refine va_newq hexec hb hown hclink hover hK hP hD hS hA hn hN hbytes hcells hslots hdg (fun q cA H1 hK1 hP1 hD1 hS1 => ?_)
  obtain rfl := va_K_last hK1 hK t0 ht
  exact kk q H1 hP1 hD1 hS1
end
theorem zf_of {ty : Nat → FieldType} {fs : List Value} {N : Nat} (h : (List.range N).map (fun j => defaultValue (ty j)) = (List.range N).map (vp_V fs)) : ∀ j, j < N → defaultValue (ty j) = vp_V fs j := by
  intro j hj
  have h1 := congrArg (fun l => l[j]?) h
  simpa [hj] using h1
def Nx (U : State) : Prop := va_Nw (.methodLinkNest RX11 9 yX9_init "SagMemory") U ∧ va_Nw (.methodLinkNest RX9 17 yX10_init "SagMemory") U ∧ va_Nw (.methodLinkNest RX11 18 yX10_init "SagMemory") U ∧ va_Nw (.methodLinkNest RX11 25 yX0_init "SagMemory") U ∧ va_Nw (.methodLinkNest RX11 32 yX3_init "SagMemory") U ∧ va_Nw (.methodLinkNest RX7 24 yX2_init "SagMemory") U ∧ va_Nw (.methodLinkNest RX11 54 yX4_init "SagMemory") U ∧ va_Nw (.methodLinkNest RX11 64 yX5_init "SagMemory") U ∧ va_Nw (.methodLinkNest RX11 71 yX2_init "SagMemory") U ∧ va_Nw (.methodLinkNest RX11 95 yX6_init "SagMemory") U ∧ va_Nw (.methodLinkNest RX11 96 yX1_init "SagMemory") U ∧ va_Nw (.methodLinkNest RX1 9 yX10_init "SagMemory") U ∧ va_Nw (.methodLinkNest RX1 18 yX0_init "SagMemory") U ∧ va_AO RX2 U ∧ va_AO RX7 U ∧ va_AO RX6 U ∧ va_AO RX1 U
theorem Nx_RX11_9 {U : State} (h : Nx U) : va_Nw (.methodLinkNest RX11 9 yX9_init "SagMemory") U := h.1
theorem Nx_RX9_17 {U : State} (h : Nx U) : va_Nw (.methodLinkNest RX9 17 yX10_init "SagMemory") U := h.2.1
theorem Nx_RX11_18 {U : State} (h : Nx U) : va_Nw (.methodLinkNest RX11 18 yX10_init "SagMemory") U := h.2.2.1
theorem Nx_RX11_25 {U : State} (h : Nx U) : va_Nw (.methodLinkNest RX11 25 yX0_init "SagMemory") U := h.2.2.2.1
theorem Nx_RX11_32 {U : State} (h : Nx U) : va_Nw (.methodLinkNest RX11 32 yX3_init "SagMemory") U := h.2.2.2.2.1
theorem Nx_RX7_24 {U : State} (h : Nx U) : va_Nw (.methodLinkNest RX7 24 yX2_init "SagMemory") U := h.2.2.2.2.2.1
theorem Nx_RX11_54 {U : State} (h : Nx U) : va_Nw (.methodLinkNest RX11 54 yX4_init "SagMemory") U := h.2.2.2.2.2.2.1
theorem Nx_RX11_64 {U : State} (h : Nx U) : va_Nw (.methodLinkNest RX11 64 yX5_init "SagMemory") U := h.2.2.2.2.2.2.2.1
theorem Nx_RX11_71 {U : State} (h : Nx U) : va_Nw (.methodLinkNest RX11 71 yX2_init "SagMemory") U := h.2.2.2.2.2.2.2.2.1
theorem Nx_RX11_95 {U : State} (h : Nx U) : va_Nw (.methodLinkNest RX11 95 yX6_init "SagMemory") U := h.2.2.2.2.2.2.2.2.2.1
theorem Nx_RX11_96 {U : State} (h : Nx U) : va_Nw (.methodLinkNest RX11 96 yX1_init "SagMemory") U := h.2.2.2.2.2.2.2.2.2.2.1
theorem Nx_RX1_9 {U : State} (h : Nx U) : va_Nw (.methodLinkNest RX1 9 yX10_init "SagMemory") U := h.2.2.2.2.2.2.2.2.2.2.2.1
theorem Nx_RX1_18 {U : State} (h : Nx U) : va_Nw (.methodLinkNest RX1 18 yX0_init "SagMemory") U := h.2.2.2.2.2.2.2.2.2.2.2.2.1
theorem Nx_ao_RX2 {U : State} (h : Nx U) : va_AO RX2 U := h.2.2.2.2.2.2.2.2.2.2.2.2.2.1
theorem Nx_ao_RX7 {U : State} (h : Nx U) : va_AO RX7 U := h.2.2.2.2.2.2.2.2.2.2.2.2.2.2.1
theorem Nx_ao_RX6 {U : State} (h : Nx U) : va_AO RX6 U := h.2.2.2.2.2.2.2.2.2.2.2.2.2.2.2.1
theorem Nx_ao_RX1 {U : State} (h : Nx U) : va_AO RX1 U := h.2.2.2.2.2.2.2.2.2.2.2.2.2.2.2.2
theorem Nx_same {u U : State} (hv : u.vm = U.vm) (h : Nx u) : Nx U := ⟨va_Nw.same rfl hv (h.1), va_Nw.same rfl hv (h.2.1), va_Nw.same rfl hv (h.2.2.1), va_Nw.same rfl hv (h.2.2.2.1), va_Nw.same rfl hv (h.2.2.2.2.1), va_Nw.same rfl hv (h.2.2.2.2.2.1), va_Nw.same rfl hv (h.2.2.2.2.2.2.1), va_Nw.same rfl hv (h.2.2.2.2.2.2.2.1), va_Nw.same rfl hv (h.2.2.2.2.2.2.2.2.1), va_Nw.same rfl hv (h.2.2.2.2.2.2.2.2.2.1), va_Nw.same rfl hv (h.2.2.2.2.2.2.2.2.2.2.1), va_Nw.same rfl hv (h.2.2.2.2.2.2.2.2.2.2.2.1), va_Nw.same rfl hv (h.2.2.2.2.2.2.2.2.2.2.2.2.1), va_AO.moved (hv ▸ Vm.Alike.refl u.vm) (h.2.2.2.2.2.2.2.2.2.2.2.2.2.1), va_AO.moved (hv ▸ Vm.Alike.refl u.vm) (h.2.2.2.2.2.2.2.2.2.2.2.2.2.2.1), va_AO.moved (hv ▸ Vm.Alike.refl u.vm) (h.2.2.2.2.2.2.2.2.2.2.2.2.2.2.2.1), va_AO.moved (hv ▸ Vm.Alike.refl u.vm) (h.2.2.2.2.2.2.2.2.2.2.2.2.2.2.2.2)⟩
theorem Nx_warm {s U : State} (hW : s.WarmedH U.vm) (h : Nx s) : Nx U := ⟨va_Nw.warmM hW (h.1), va_Nw.warmM hW (h.2.1), va_Nw.warmM hW (h.2.2.1), va_Nw.warmM hW (h.2.2.2.1), va_Nw.warmM hW (h.2.2.2.2.1), va_Nw.warmM hW (h.2.2.2.2.2.1), va_Nw.warmM hW (h.2.2.2.2.2.2.1), va_Nw.warmM hW (h.2.2.2.2.2.2.2.1), va_Nw.warmM hW (h.2.2.2.2.2.2.2.2.1), va_Nw.warmM hW (h.2.2.2.2.2.2.2.2.2.1), va_Nw.warmM hW (h.2.2.2.2.2.2.2.2.2.2.1), va_Nw.warmM hW (h.2.2.2.2.2.2.2.2.2.2.2.1), va_Nw.warmM hW (h.2.2.2.2.2.2.2.2.2.2.2.2.1), va_AO.moved hW.alike (h.2.2.2.2.2.2.2.2.2.2.2.2.2.1), va_AO.moved hW.alike (h.2.2.2.2.2.2.2.2.2.2.2.2.2.2.1), va_AO.moved hW.alike (h.2.2.2.2.2.2.2.2.2.2.2.2.2.2.2.1), va_AO.moved hW.alike (h.2.2.2.2.2.2.2.2.2.2.2.2.2.2.2.2)⟩
