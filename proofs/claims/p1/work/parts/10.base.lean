/-- what the tables say beside the words: links of nest mates, arrays over classes -/
def hm_E (U : State) : Prop := va_Nw (.methodLinkNest RX11 11 yX5_init "HiddenMoves") U ∧ va_Nw (.methodLinkNest RX11 63 yX4_init "HiddenMoves") U ∧ va_Nw (.methodLinkNest RX2 30 yX7_init "HiddenMoves") U ∧ va_Nw (.methodLinkNest RX4 35 yX1_init "HiddenMoves") U ∧ va_Nw (.methodLinkNest RX5 20 yX10_init "HiddenMoves") U ∧ va_Nw (.methodLinkNest RX8 60 yX1_init "HiddenMoves") U ∧ va_AO RX0 U ∧ va_AO RX3 U ∧ va_AO RX4 U ∧ va_AO RX6 U ∧ va_AO RX7 U ∧ va_AO RX9 U ∧ va_AOA .long U
theorem hm_E.nest_RX11_11 {U : State} (h : hm_E U) : va_Nw (.methodLinkNest RX11 11 yX5_init "HiddenMoves") U := h.1
theorem hm_E.nest_RX11_63 {U : State} (h : hm_E U) : va_Nw (.methodLinkNest RX11 63 yX4_init "HiddenMoves") U := h.2.1
theorem hm_E.nest_RX2_30 {U : State} (h : hm_E U) : va_Nw (.methodLinkNest RX2 30 yX7_init "HiddenMoves") U := h.2.2.1
theorem hm_E.nest_RX4_35 {U : State} (h : hm_E U) : va_Nw (.methodLinkNest RX4 35 yX1_init "HiddenMoves") U := h.2.2.2.1
theorem hm_E.nest_RX5_20 {U : State} (h : hm_E U) : va_Nw (.methodLinkNest RX5 20 yX10_init "HiddenMoves") U := h.2.2.2.2.1
theorem hm_E.nest_RX8_60 {U : State} (h : hm_E U) : va_Nw (.methodLinkNest RX8 60 yX1_init "HiddenMoves") U := h.2.2.2.2.2.1
theorem hm_E.ao_RX0 {U : State} (h : hm_E U) : va_AO RX0 U := h.2.2.2.2.2.2.1
theorem hm_E.ao_RX3 {U : State} (h : hm_E U) : va_AO RX3 U := h.2.2.2.2.2.2.2.1
theorem hm_E.ao_RX4 {U : State} (h : hm_E U) : va_AO RX4 U := h.2.2.2.2.2.2.2.2.1
theorem hm_E.ao_RX6 {U : State} (h : hm_E U) : va_AO RX6 U := h.2.2.2.2.2.2.2.2.2.1
theorem hm_E.ao_RX7 {U : State} (h : hm_E U) : va_AO RX7 U := h.2.2.2.2.2.2.2.2.2.2.1
theorem hm_E.ao_RX9 {U : State} (h : hm_E U) : va_AO RX9 U := h.2.2.2.2.2.2.2.2.2.2.2.1
theorem hm_E.aoa_long {U : State} (h : hm_E U) : va_AOA .long U := h.2.2.2.2.2.2.2.2.2.2.2.2
theorem hm_E.blind {U : State} {g : JFrame} {mk : MethodId} {a : Array Value} (h : hm_E U) : hm_E (U.calling g mk a) := ⟨va_Nw.same rfl rfl h.nest_RX11_11, va_Nw.same rfl rfl h.nest_RX11_63, va_Nw.same rfl rfl h.nest_RX2_30, va_Nw.same rfl rfl h.nest_RX4_35, va_Nw.same rfl rfl h.nest_RX5_20, va_Nw.same rfl rfl h.nest_RX8_60, va_AO.moved (Vm.Alike.refl _) h.ao_RX0, va_AO.moved (Vm.Alike.refl _) h.ao_RX3, va_AO.moved (Vm.Alike.refl _) h.ao_RX4, va_AO.moved (Vm.Alike.refl _) h.ao_RX6, va_AO.moved (Vm.Alike.refl _) h.ao_RX7, va_AO.moved (Vm.Alike.refl _) h.ao_RX9, va_AOA.moved (Vm.Alike.refl _) h.aoa_long⟩
theorem hm_E.warm {s U : State} (hW : s.WarmedH U.vm) (h : hm_E s) : hm_E U := ⟨va_Nw.warmM hW h.nest_RX11_11, va_Nw.warmM hW h.nest_RX11_63, va_Nw.warmM hW h.nest_RX2_30, va_Nw.warmM hW h.nest_RX4_35, va_Nw.warmM hW h.nest_RX5_20, va_Nw.warmM hW h.nest_RX8_60, va_AO.moved hW.alike h.ao_RX0, va_AO.moved hW.alike h.ao_RX3, va_AO.moved hW.alike h.ao_RX4, va_AO.moved hW.alike h.ao_RX6, va_AO.moved hW.alike h.ao_RX7, va_AO.moved hW.alike h.ao_RX9, va_AOA.moved hW.alike h.aoa_long⟩
/-- a contract's start: the world ws, its array classes tys, the heap's size -/
abbrev hm_P (D : va_G) (ws : va_W) (tys : List (ClassId × FieldType)) (sz : Nat) : State → Prop := fun U => U.heap.size = sz ∧ va_P D vwCl ws U.heap ∧ va_K D vwCl tys U ∧ va_D (fun _ => True) ws ∧ hm_E U
/-- .. and its end -/
abbrev hm_B (D : va_G) (A : Nat → Prop) (ws : va_W) (tys : List (ClassId × FieldType)) (t : State) : Prop := va_P D vwCl ws t.heap ∧ va_K D vwCl tys t ∧ va_D A ws
theorem hm_blind {av : List Value} {D : va_G} {ws : va_W} {tys : List (ClassId × FieldType)} {sz : Nat} : FrameBlind (va_Pc av (hm_P D ws tys sz)) := fun a U g mk q => by
  obtain ⟨q0, q1, qP, qK, qD, qE⟩ := q
  exact ⟨q0, q1, qP, va_K.moved (u := U) (U := U.calling g mk a) (Vm.Alike.refl U.vm) qK, qD, qE.blind⟩
theorem hm_pre {av : List Value} {D : va_G} {ws : va_W} {tys : List (ClassId × FieldType)} {s : State} {H : Heap} {A : Nat → Prop} (hP : va_P D vwCl ws H) (hK : va_K D vwCl tys s) (hD : va_D A ws) (hE : hm_E s) : ∀ U : State, U.heap = H → s.WarmedH U.vm → va_Pc av (hm_P D ws tys H.size) av.toArray U := fun U hU hW => ⟨rfl, by rw [hU], by rw [hU]; exact hP, va_K.moved hW.alike hK, hD.weaken (fun _ _ _ _ => trivial), hE.warm hW⟩
/-- a loop that counts: from its head at i to its head at N -/
theorem hm_loop {p : Program} {l : Launch} {e : Env} {R : Room} {s : State} {m : MethodId} {args : Array Value} {below : List Frame} {meth : Method} {c : Code} {Q : State → Prop} {σ : Type} (N : Nat) (I : Nat → σ → Heap → List Loc → Array Slot → Prop) (cf sf : Nat → Nat) (pc : Nat)
    (hexit : ∀ x H locs ls, I N x H locs ls → W p l e R s m args below meth c H locs (cf N) (sf N) Q (F0 m pc ls []))
    (hstep : ∀ i x H locs ls, i < N → I i x H locs ls → (∀ x' H' locs' ls', I (i + 1) x' H' locs' ls' → W p l e R s m args below meth c H' locs' (cf (i + 1)) (sf (i + 1)) Q (F0 m pc ls' [])) → W p l e R s m args below meth c H locs (cf i) (sf i) Q (F0 m pc ls []))
    (x0 : σ) {H : Heap} {locs : List Loc} {ls : Array Slot} (h0 : I 0 x0 H locs ls) : W p l e R s m args below meth c H locs (cf 0) (sf 0) Q (F0 m pc ls []) := by
  have key : ∀ n i x H locs ls, i + n = N → I i x H locs ls → W p l e R s m args below meth c H locs (cf i) (sf i) Q (F0 m pc ls []) := by
    intro n
    induction n with
    | zero =>
      intro i x H locs ls hi h
      have e : i = N := by omega
      subst e
      exact hexit x H locs ls h
    | succ n ih =>
      intro i x H locs ls hi h
      exact hstep i x H locs ls (by omega) h (fun x' H' locs' ls' h' => ih (i + 1) x' H' locs' ls' (by omega) h')
  exact key N 0 x0 H locs ls (by omega) h0
