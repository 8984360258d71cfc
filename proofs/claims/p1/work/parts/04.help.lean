theorem zi_lt {a b : Int32} : a < b ↔ a.toInt < b.toInt := Int32.lt_iff_toInt_lt
theorem zi_le {a b : Int32} : a ≤ b ↔ a.toInt ≤ b.toInt := Int32.le_iff_toInt_le
theorem zi_eq {a b : Int32} : a = b ↔ a.toInt = b.toInt := Int32.toInt_inj.symm
theorem zi_ltL {a b : Int64} : a < b ↔ a.toInt < b.toInt := Int64.lt_iff_toInt_lt
theorem zi_leL {a b : Int64} : a ≤ b ↔ a.toInt ≤ b.toInt := Int64.le_iff_toInt_le
theorem zi_eqL {a b : Int64} : a = b ↔ a.toInt = b.toInt := Int64.toInt_inj.symm
/-- the words that the tables have and no method's list: private constructors, arrays of objects -/
def Nx (U : State) : Prop := va_Nw (.methodLinkNest RX11 9 yX9_init "SagMemory") U ∧ va_Nw (.methodLinkNest RX9 17 yX10_init "SagMemory") U ∧ va_Nw (.methodLinkNest RX11 18 yX10_init "SagMemory") U ∧ va_Nw (.methodLinkNest RX11 25 yX0_init "SagMemory") U ∧ va_Nw (.methodLinkNest RX11 32 yX3_init "SagMemory") U ∧ va_Nw (.methodLinkNest RX7 24 yX2_init "SagMemory") U ∧ va_Nw (.methodLinkNest RX11 54 yX4_init "SagMemory") U ∧ va_Nw (.methodLinkNest RX11 64 yX5_init "SagMemory") U ∧ va_Nw (.methodLinkNest RX11 71 yX2_init "SagMemory") U ∧ va_Nw (.methodLinkNest RX11 95 yX6_init "SagMemory") U ∧ va_Nw (.methodLinkNest RX11 96 yX1_init "SagMemory") U ∧ va_Nw (.methodLinkNest RX1 9 yX10_init "SagMemory") U ∧ va_Nw (.methodLinkNest RX1 18 yX0_init "SagMemory") U ∧ va_AO RX2 U ∧ va_AO RX7 U ∧ va_AO RX6 U ∧ va_AO RX1 U
theorem Nx_RX11_9 {U : State} (h : Nx U) : va_Nw (.methodLinkNest RX11 9 yX9_init "SagMemory") U := h.1
theorem Nx_RX9_17 {U : State} (h : Nx U) : va_Nw (.methodLinkNest RX9 17 yX10_init "SagMemory") U := h.2.1
theorem Nx_RX11_18 {U : State} (h : Nx U) : va_Nw (.methodLinkNest RX11 18 yX10_init "SagMemory") U := h.2.2.1
theorem Nx_RX11_25 {U : State} (h : Nx U) : va_Nw (.methodLinkNest RX11 25 yX0_init "SagMemory") U := h.2.2.2.1
theorem Nx_RX11_32 {U : State} (h : Nx U) : va_Nw (.methodLinkNest RX11 32 yX3_init "SagMemory") U := h.2.2.2.2.1
theorem Nx_RX7_24 {U : State} (h : Nx U) : va_Nw (.methodLinkNest RX7 24 yX2_init "SagMemory") U := h.2.2.2.2.2.1
theorem Nx_RX11_54 {U : State} (h : Nx U) : va_Nw (.methodLinkNest RX11 54 yX4_init "SagMemory") U := h.2.2.2.2.2.2.1
theorem Nx_RX11_64 {U : State} (h : Nx U) : va_Nw (.methodLinkNest RX11 64 yX5_init "SagMemory") U := h.2.2.2.2.2.2.2.1
theorem Nx_RX11_71 {U : State} (h : Nx U) : va_Nw (.methodLinkNest RX11 71 yX2_init "SagMemory") U := h.2.2.2.2.2.2.2.2.1
theorem Nx_RX11_95 {U : State} (h : Nx U) : va_Nw (.methodLinkNest RX11 95 yX6_init "SagMemory") U := h.2.2.2.2.2.2.2.2.2.1
theorem Nx_RX11_96 {U : State} (h : Nx U) : va_Nw (.methodLinkNest RX11 96 yX1_init "SagMemory") U := h.2.2.2.2.2.2.2.2.2.2.1
theorem Nx_RX1_9 {U : State} (h : Nx U) : va_Nw (.methodLinkNest RX1 9 yX10_init "SagMemory") U := h.2.2.2.2.2.2.2.2.2.2.2.1
theorem Nx_RX1_18 {U : State} (h : Nx U) : va_Nw (.methodLinkNest RX1 18 yX0_init "SagMemory") U := h.2.2.2.2.2.2.2.2.2.2.2.2.1
theorem Nx_ao_RX2 {U : State} (h : Nx U) : va_AO RX2 U := h.2.2.2.2.2.2.2.2.2.2.2.2.2.1
theorem Nx_ao_RX7 {U : State} (h : Nx U) : va_AO RX7 U := h.2.2.2.2.2.2.2.2.2.2.2.2.2.2.1
theorem Nx_ao_RX6 {U : State} (h : Nx U) : va_AO RX6 U := h.2.2.2.2.2.2.2.2.2.2.2.2.2.2.2.1
theorem Nx_ao_RX1 {U : State} (h : Nx U) : va_AO RX1 U := h.2.2.2.2.2.2.2.2.2.2.2.2.2.2.2.2
theorem Nx_same {u U : State} (hv : u.vm = U.vm) (h : Nx u) : Nx U := ⟨va_Nw.same rfl hv (h.1), va_Nw.same rfl hv (h.2.1), va_Nw.same rfl hv (h.2.2.1), va_Nw.same rfl hv (h.2.2.2.1), va_Nw.same rfl hv (h.2.2.2.2.1), va_Nw.same rfl hv (h.2.2.2.2.2.1), va_Nw.same rfl hv (h.2.2.2.2.2.2.1), va_Nw.same rfl hv (h.2.2.2.2.2.2.2.1), va_Nw.same rfl hv (h.2.2.2.2.2.2.2.2.1), va_Nw.same rfl hv (h.2.2.2.2.2.2.2.2.2.1), va_Nw.same rfl hv (h.2.2.2.2.2.2.2.2.2.2.1), va_Nw.same rfl hv (h.2.2.2.2.2.2.2.2.2.2.2.1), va_Nw.same rfl hv (h.2.2.2.2.2.2.2.2.2.2.2.2.1), va_AO.moved (hv ▸ Vm.Alike.refl u.vm) (h.2.2.2.2.2.2.2.2.2.2.2.2.2.1), va_AO.moved (hv ▸ Vm.Alike.refl u.vm) (h.2.2.2.2.2.2.2.2.2.2.2.2.2.2.1), va_AO.moved (hv ▸ Vm.Alike.refl u.vm) (h.2.2.2.2.2.2.2.2.2.2.2.2.2.2.2.1), va_AO.moved (hv ▸ Vm.Alike.refl u.vm) (h.2.2.2.2.2.2.2.2.2.2.2.2.2.2.2.2)⟩
theorem Nx_warm {s U : State} (hW : s.WarmedH U.vm) (h : Nx s) : Nx U := ⟨va_Nw.warmM hW (h.1), va_Nw.warmM hW (h.2.1), va_Nw.warmM hW (h.2.2.1), va_Nw.warmM hW (h.2.2.2.1), va_Nw.warmM hW (h.2.2.2.2.1), va_Nw.warmM hW (h.2.2.2.2.2.1), va_Nw.warmM hW (h.2.2.2.2.2.2.1), va_Nw.warmM hW (h.2.2.2.2.2.2.2.1), va_Nw.warmM hW (h.2.2.2.2.2.2.2.2.1), va_Nw.warmM hW (h.2.2.2.2.2.2.2.2.2.1), va_Nw.warmM hW (h.2.2.2.2.2.2.2.2.2.2.1), va_Nw.warmM hW (h.2.2.2.2.2.2.2.2.2.2.2.1), va_Nw.warmM hW (h.2.2.2.2.2.2.2.2.2.2.2.2.1), va_AO.moved hW.alike (h.2.2.2.2.2.2.2.2.2.2.2.2.2.1), va_AO.moved hW.alike (h.2.2.2.2.2.2.2.2.2.2.2.2.2.2.1), va_AO.moved hW.alike (h.2.2.2.2.2.2.2.2.2.2.2.2.2.2.2.1), va_AO.moved hW.alike (h.2.2.2.2.2.2.2.2.2.2.2.2.2.2.2.2)⟩
theorem upd0 {k : Nat} : upd (fun _ => (0 : Int32)) k 0 = (fun _ => 0) := by funext j; simp [upd]
theorem updL0 {k : Nat} : vp_updL (fun _ => (0 : Int64)) k 0 = (fun _ => 0) := by funext j; simp [vp_updL]
theorem wl_mem {c : Cond} {ws r : List Cond} (i : Nat) {w : Cond} (h : ws[i]? = some w) : w ∈ c :: (ws ++ r) := List.mem_cons_of_mem _ (List.mem_append_left _ (List.mem_of_getElem? h))
theorem gk_V {big ws : List Cond} {own C : String} {idx : Nat} {y : MethodName} (h1 : Cond.methodLink own idx y ∈ big) (h2 : Cond.instanceMethod y ∈ big) (h3 : Cond.selects C y y ∈ big) (h4 : Cond.initialized C ∈ big) (hm : ∀ w ∈ ws, w ∈ big) (h : ws.all goodWord = true) : GoodIn big (wsV own idx C y ws) := goodIn_app (goodIn_sub (List.forall_mem_cons.mpr ⟨h1, List.forall_mem_cons.mpr ⟨h2, List.forall_mem_cons.mpr ⟨h3, List.forall_mem_cons.mpr ⟨h4, fun _ h => absurd h List.not_mem_nil⟩⟩⟩⟩) rfl) (goodIn_sub hm h)
theorem gk_S {big ws : List Cond} {own : String} {idx : Nat} {y : MethodName} (h1 : Cond.methodLink own idx y ∈ big) (h2 : Cond.static y ∈ big) (h4 : Cond.initialized y.cls ∈ big) (hm : ∀ w ∈ ws, w ∈ big) (h : ws.all goodWord = true) : GoodIn big (va_wsS own idx y ws) := goodIn_app (goodIn_sub (List.forall_mem_cons.mpr ⟨h1, List.forall_mem_cons.mpr ⟨h2, List.forall_mem_cons.mpr ⟨h4, fun _ h => absurd h List.not_mem_nil⟩⟩⟩) rfl) (goodIn_sub hm h)
