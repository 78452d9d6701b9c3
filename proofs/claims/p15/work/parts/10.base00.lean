-- 10.base
/-- what the tables say beside the words: links of nest mates, arrays over classes -/
noncomputable def hm_E (U : State) : Prop := va_Nw (.methodLinkNest RX11 11 yX5_init "HiddenMoves") U ∧ va_Nw (.methodLinkNest RX11 63 yX4_init "HiddenMoves") U ∧ va_Nw (.methodLinkNest RX2 30 yX7_init "HiddenMoves") U ∧ va_Nw (.methodLinkNest RX4 35 yX1_init "HiddenMoves") U ∧ va_Nw (.methodLinkNest RX5 20 yX10_init "HiddenMoves") U ∧ va_Nw (.methodLinkNest RX5 136 yX11_gcd "HiddenMoves") U ∧ va_Nw (.methodLinkNest RX5 140 yX11_quotient "HiddenMoves") U ∧ va_Nw (.methodLinkNest RX5 146 yX11_lcm "HiddenMoves") U ∧ va_Nw (.methodLinkNest RX6 85 yX11_other "HiddenMoves") U ∧ va_Nw (.methodLinkNest RX8 60 yX1_init "HiddenMoves") U ∧ va_Nw (.methodLinkNest RX9 21 yX11_gcd "HiddenMoves") U ∧ va_Nw (.methodLinkNest RX9 25 yX11_quotient "HiddenMoves") U ∧ va_Nw (.methodLinkNest RX9 45 yX11_lcm "HiddenMoves") U ∧ va_AO RX0 U ∧ va_AO RX3 U ∧ va_AO RX4 U ∧ va_AO RX6 U ∧ va_AO RX7 U ∧ va_AO RX9 U ∧ va_AOA .long U
theorem hm_E.nest_RX11_11 {U : State} (h : hm_E U) : va_Nw (.methodLinkNest RX11 11 yX5_init "HiddenMoves") U := h.1
theorem hm_E.nest_RX11_63 {U : State} (h : hm_E U) : va_Nw (.methodLinkNest RX11 63 yX4_init "HiddenMoves") U := h.2.1
theorem hm_E.nest_RX2_30 {U : State} (h : hm_E U) : va_Nw (.methodLinkNest RX2 30 yX7_init "HiddenMoves") U := h.2.2.1
theorem hm_E.nest_RX4_35 {U : State} (h : hm_E U) : va_Nw (.methodLinkNest RX4 35 yX1_init "HiddenMoves") U := h.2.2.2.1
theorem hm_E.nest_RX5_20 {U : State} (h : hm_E U) : va_Nw (.methodLinkNest RX5 20 yX10_init "HiddenMoves") U := h.2.2.2.2.1
theorem hm_E.nest_RX5_136 {U : State} (h : hm_E U) : va_Nw (.methodLinkNest RX5 136 yX11_gcd "HiddenMoves") U := h.2.2.2.2.2.1
theorem hm_E.nest_RX5_140 {U : State} (h : hm_E U) : va_Nw (.methodLinkNest RX5 140 yX11_quotient "HiddenMoves") U := h.2.2.2.2.2.2.1
theorem hm_E.nest_RX5_146 {U : State} (h : hm_E U) : va_Nw (.methodLinkNest RX5 146 yX11_lcm "HiddenMoves") U := h.2.2.2.2.2.2.2.1
theorem hm_E.nest_RX6_85 {U : State} (h : hm_E U) : va_Nw (.methodLinkNest RX6 85 yX11_other "HiddenMoves") U := h.2.2.2.2.2.2.2.2.1
theorem hm_E.nest_RX8_60 {U : State} (h : hm_E U) : va_Nw (.methodLinkNest RX8 60 yX1_init "HiddenMoves") U := h.2.2.2.2.2.2.2.2.2.1
theorem hm_E.nest_RX9_21 {U : State} (h : hm_E U) : va_Nw (.methodLinkNest RX9 21 yX11_gcd "HiddenMoves") U := h.2.2.2.2.2.2.2.2.2.2.1
theorem hm_E.nest_RX9_25 {U : State} (h : hm_E U) : va_Nw (.methodLinkNest RX9 25 yX11_quotient "HiddenMoves") U := h.2.2.2.2.2.2.2.2.2.2.2.1
theorem hm_E.nest_RX9_45 {U : State} (h : hm_E U) : va_Nw (.methodLinkNest RX9 45 yX11_lcm "HiddenMoves") U := h.2.2.2.2.2.2.2.2.2.2.2.2.1
theorem hm_E.ao_RX0 {U : State} (h : hm_E U) : va_AO RX0 U := h.2.2.2.2.2.2.2.2.2.2.2.2.2.1
theorem hm_E.ao_RX3 {U : State} (h : hm_E U) : va_AO RX3 U := h.2.2.2.2.2.2.2.2.2.2.2.2.2.2.1
theorem hm_E.ao_RX4 {U : State} (h : hm_E U) : va_AO RX4 U := h.2.2.2.2.2.2.2.2.2.2.2.2.2.2.2.1
theorem hm_E.ao_RX6 {U : State} (h : hm_E U) : va_AO RX6 U := h.2.2.2.2.2.2.2.2.2.2.2.2.2.2.2.2.1
theorem hm_E.ao_RX7 {U : State} (h : hm_E U) : va_AO RX7 U := h.2.2.2.2.2.2.2.2.2.2.2.2.2.2.2.2.2.1
theorem hm_E.ao_RX9 {U : State} (h : hm_E U) : va_AO RX9 U := h.2.2.2.2.2.2.2.2.2.2.2.2.2.2.2.2.2.2.1
theorem hm_E.aoa_long {U : State} (h : hm_E U) : va_AOA .long U := h.2.2.2.2.2.2.2.2.2.2.2.2.2.2.2.2.2.2.2
theorem hm_E.blind {U : State} {g : JFrame} {mk : MethodId} {a : Array Value} (h : hm_E U) : hm_E (U.calling g mk a) := ⟨va_Nw.same rfl rfl h.nest_RX11_11, va_Nw.same rfl rfl h.nest_RX11_63, va_Nw.same rfl rfl h.nest_RX2_30, va_Nw.same rfl rfl h.nest_RX4_35, va_Nw.same rfl rfl h.nest_RX5_20, va_Nw.same rfl rfl h.nest_RX5_136, va_Nw.same rfl rfl h.nest_RX5_140, va_Nw.same rfl rfl h.nest_RX5_146, va_Nw.same rfl rfl h.nest_RX6_85, va_Nw.same rfl rfl h.nest_RX8_60, va_Nw.same rfl rfl h.nest_RX9_21, va_Nw.same rfl rfl h.nest_RX9_25, va_Nw.same rfl rfl h.nest_RX9_45, va_AO.moved (Vm.Alike.refl _) h.ao_RX0, va_AO.moved (Vm.Alike.refl _) h.ao_RX3, va_AO.moved (Vm.Alike.refl _) h.ao_RX4, va_AO.moved (Vm.Alike.refl _) h.ao_RX6, va_AO.moved (Vm.Alike.refl _) h.ao_RX7, va_AO.moved (Vm.Alike.refl _) h.ao_RX9, va_AOA.moved (Vm.Alike.refl _) h.aoa_long⟩
theorem hm_E.warm {s U : State} (hW : s.WarmedH U.vm) (h : hm_E s) : hm_E U := ⟨va_Nw.warmM hW h.nest_RX11_11, va_Nw.warmM hW h.nest_RX11_63, va_Nw.warmM hW h.nest_RX2_30, va_Nw.warmM hW h.nest_RX4_35, va_Nw.warmM hW h.nest_RX5_20, va_Nw.warmM hW h.nest_RX5_136, va_Nw.warmM hW h.nest_RX5_140, va_Nw.warmM hW h.nest_RX5_146, va_Nw.warmM hW h.nest_RX6_85, va_Nw.warmM hW h.nest_RX8_60, va_Nw.warmM hW h.nest_RX9_21, va_Nw.warmM hW h.nest_RX9_25, va_Nw.warmM hW h.nest_RX9_45, va_AO.moved hW.alike h.ao_RX0, va_AO.moved hW.alike h.ao_RX3, va_AO.moved hW.alike h.ao_RX4, va_AO.moved hW.alike h.ao_RX6, va_AO.moved hW.alike h.ao_RX7, va_AO.moved hW.alike h.ao_RX9, va_AOA.moved hW.alike h.aoa_long⟩
/-- a contract's start: the world ws, its array classes tys, the heap's size -/
noncomputable abbrev hm_P (D : va_G) (ws : va_W) (tys : List (ClassId × FieldType)) (sz : Nat) : State → Prop := fun U => U.heap.size = sz ∧ va_P D vwCl ws U.heap ∧ va_K D vwCl tys U ∧ va_D (fun _ => True) ws ∧ hm_E U
/-- .. and its end -/
noncomputable abbrev hm_B (D : va_G) (A : Nat → Prop) (ws : va_W) (tys : List (ClassId × FieldType)) (t : State) : Prop := va_P D vwCl ws t.heap ∧ va_K D vwCl tys t ∧ va_D A ws
theorem hm_blind {av : List Value} {D : va_G} {ws : va_W} {tys : List (ClassId × FieldType)} {sz : Nat} : FrameBlind (va_Pc av (hm_P D ws tys sz)) := fun a U g mk q => by
  obtain ⟨q0, q1, qP, qK, qD, qE⟩ := q
  exact ⟨q0, q1, qP, va_K.moved (u := U) (U := U.calling g mk a) (Vm.Alike.refl U.vm) qK, qD, qE.blind⟩
theorem hm_pre {av : List Value} {D : va_G} {ws : va_W} {tys : List (ClassId × FieldType)} {s : State} {H : Heap} {A : Nat → Prop} (hP : va_P D vwCl ws H) (hK : va_K D vwCl tys s) (hD : va_D A ws) (hE : hm_E s) : ∀ U : State, U.heap = H → s.WarmedH U.vm → va_Pc av (hm_P D ws tys H.size) av.toArray U := fun U hU hW => ⟨rfl, by rw [hU], by rw [hU]; exact hP, va_K.moved hW.alike hK, hD.weaken (fun _ _ _ _ => trivial), hE.warm hW⟩
/-- a loop that counts: from its head at i to its head at N -/
theorem hm_loop {p : Program} {l : Launch} {e : Env} {R : Room} {s : State} {m : MethodId} {args : Array Value} {below : List Frame} {meth : Method} {c : Code} {Q : State → Prop} {σ : Type} (N : Nat) (I : Nat → σ → Heap → List Loc → Array Slot → Prop) (cf sf : Nat → Nat) (pc : Nat)
    (hexit : ∀ x H locs ls, I N x H locs ls → W p l e R s m args below meth c H locs (cf N) (sf N) Q (F0 m pc ls []))
    (hstep : ∀ i x H locs ls, i < N → I i x H locs ls → (∀ x' H' locs' ls', I (i + 1) x' H' locs' ls' → W p l e R s m args below meth c H' locs' (cf (i + 1)) (sf (i + 1)) Q (F0 m pc ls' [])) → W p l e R s m args below meth c H locs (cf i) (sf i) Q (F0 m pc ls []))
    (x0 : σ) {H : Heap} {locs : List Loc} {ls : Array Slot} (h0 : I 0 x0 H locs ls) : W p l e R s m args below meth c H locs (cf 0) (sf 0) Q (F0 m pc ls []) := by
  have key : ∀ n i x H locs ls, i + n = N → I i x H locs ls → W p l e R s m args below meth c H locs (cf i) (sf i) Q (F0 m pc ls []) := by
    intro n
    induction n with
    | zero =>
      intro i x H locs ls hi h
      have e : i = N := by omega
      subst e
      exact hexit x H locs ls h
    | succ n ih =>
      intro i x H locs ls hi h
      exact hstep i x H locs ls (by omega) h (fun x' H' locs' ls' h' => ih (i + 1) x' H' locs' ls' (by omega) h')
  exact key N 0 x0 H locs ls (by omega) h0

-- 11.zrows
/-- whole numbers as ints and longs -/
noncomputable def hz_i (a : Int) : Int32 := Int32.ofInt a
noncomputable def hz_l (a : Int) : Int64 := Int64.ofInt a
noncomputable abbrev hz_rI (a : Int) : Prop := -2147483648 ≤ a ∧ a < 2147483648
noncomputable abbrev hz_rL (a : Int) : Prop := -9223372036854775808 ≤ a ∧ a < 9223372036854775808
theorem hz_i_toInt {a : Int} (h : hz_rI a) : (hz_i a).toInt = a := Int32.toInt_ofInt_of_le (by have := h.1; omega) (by have := h.2; omega)
theorem hz_l_toInt {a : Int} (h : hz_rL a) : (hz_l a).toInt = a := Int64.toInt_ofInt_of_le (by have := h.1; omega) (by have := h.2; omega)
theorem hz_i_of (x : Int32) : ∃ a, hz_rI a ∧ x = hz_i a := ⟨x.toInt, ⟨by have := x.le_toInt; omega, by have := x.toInt_lt; omega⟩, (Int32.ofInt_toInt x).symm⟩
theorem hz_l_of (x : Int64) : ∃ a, hz_rL a ∧ x = hz_l a := ⟨x.toInt, ⟨by have := x.le_toInt; omega, by have := x.toInt_lt; omega⟩, (Int64.ofInt_toInt x).symm⟩
theorem hz_i_add (a b : Int) : hz_i a + hz_i b = hz_i (a + b) := (Int32.ofInt_add a b).symm
theorem hz_i_sub (a b : Int) : hz_i a - hz_i b = hz_i (a - b) := (Int32.ofInt_sub a b).symm
theorem hz_i_mul (a b : Int) : hz_i a * hz_i b = hz_i (a * b) := (Int32.ofInt_mul a b).symm
theorem hz_i_neg (a : Int) : - hz_i a = hz_i (-a) := (Int32.ofInt_neg a).symm
theorem hz_l_add (a b : Int) : hz_l a + hz_l b = hz_l (a + b) := (Int64.ofInt_add a b).symm
theorem hz_l_sub (a b : Int) : hz_l a - hz_l b = hz_l (a - b) := (Int64.ofInt_sub a b).symm
theorem hz_l_mul (a b : Int) : hz_l a * hz_l b = hz_l (a * b) := (Int64.ofInt_mul a b).symm
theorem hz_l_neg (a : Int) : - hz_l a = hz_l (-a) := (Int64.ofInt_neg a).symm
theorem hz_i_div {a b : Int} (ha : hz_rI a) (hb : hz_rI b) : hz_i a / hz_i b = hz_i (a.tdiv b) := by
  refine (Int32.toInt_inj).mp ?_
  rw [Int32.toInt_div, hz_i_toInt ha, hz_i_toInt hb, hz_i, Int32.toInt_ofInt]
theorem hz_l_div {a b : Int} (ha : hz_rL a) (hb : hz_rL b) : hz_l a / hz_l b = hz_l (a.tdiv b) := by
  refine (Int64.toInt_inj).mp ?_
  rw [Int64.toInt_div, hz_l_toInt ha, hz_l_toInt hb, hz_l, Int64.toInt_ofInt]
theorem hz_i_rem {a b : Int} (ha : hz_rI a) (hb : hz_rI b) : hz_i a - hz_i a / hz_i b * hz_i b = hz_i (a.tmod b) := by
  rw [hz_i_div ha hb, hz_i_mul, hz_i_sub, Int.tmod_def, Int.mul_comm]
theorem hz_l_rem {a b : Int} (ha : hz_rL a) (hb : hz_rL b) : hz_l a - hz_l a / hz_l b * hz_l b = hz_l (a.tmod b) := by
  rw [hz_l_div ha hb, hz_l_mul, hz_l_sub, Int.tmod_def, Int.mul_comm]
theorem hz_i_lt {a b : Int} (ha : hz_rI a) (hb : hz_rI b) : hz_i a < hz_i b ↔ a < b := by rw [Int32.lt_iff_toInt_lt, hz_i_toInt ha, hz_i_toInt hb]
theorem hz_i_le {a b : Int} (ha : hz_rI a) (hb : hz_rI b) : hz_i a ≤ hz_i b ↔ a ≤ b := by rw [Int32.le_iff_toInt_le, hz_i_toInt ha, hz_i_toInt hb]
theorem hz_i_eq {a b : Int} (ha : hz_rI a) (hb : hz_rI b) : hz_i a = hz_i b ↔ a = b := by rw [← Int32.toInt_inj, hz_i_toInt ha, hz_i_toInt hb]
theorem hz_l_lt {a b : Int} (ha : hz_rL a) (hb : hz_rL b) : hz_l a < hz_l b ↔ a < b := by rw [Int64.lt_iff_toInt_lt, hz_l_toInt ha, hz_l_toInt hb]
theorem hz_l_eq {a b : Int} (ha : hz_rL a) (hb : hz_rL b) : hz_l a = hz_l b ↔ a = b := by rw [← Int64.toInt_inj, hz_l_toInt ha, hz_l_toInt hb]
theorem hz_0 : hz_i 0 = 0 := rfl
theorem hz_r0 : hz_rI 0 := ⟨by decide, by decide⟩
theorem hz_i2l {a : Int} (h : hz_rI a) : (hz_i a).toInt64 = hz_l a := by
  refine (Int64.toInt_inj).mp ?_
  rw [Int32.toInt_toInt64, hz_i_toInt h, hz_l_toInt ⟨by have := h.1; omega, by have := h.2; omega⟩]
theorem hz_l2i (a : Int) : (hz_l a).toInt32 = hz_i a := Int64.toInt32_ofInt
theorem hz_i2b {a : Int} (h : -128 ≤ a ∧ a < 128) : (hz_i a).toInt8.toInt32 = hz_i a := by
  refine (Int32.toInt_inj).mp ?_
  rw [Int8.toInt_toInt32, Int32.toInt_toInt8, hz_i_toInt ⟨by omega, by omega⟩]
  exact Int.bmod_eq_of_le (by omega) (by omega)
theorem hz_l_mask {a b : Int} (k : Nat) (h : hz_rL a) (hk : k < 63) (hm : (hz_l b).toBitVec.toNat = 2 ^ k - 1) : hz_l a &&& hz_l b = hz_l (a % 2 ^ k) := by
  refine (Int64.toInt_inj).mp ?_
  rw [Jvm.Kit.i64_mask _ _ (by omega) hm, hz_l_toInt h]
  have h1 : 0 ≤ a % 2 ^ k := Int.emod_nonneg _ (by have := Int.pow_pos (n := 2) (m := k) (by decide); omega)
  have h2 : a % 2 ^ k < 2 ^ k := Int.emod_lt_of_pos _ (Int.pow_pos (by decide))
  have h3 : (2 : Int) ^ k ≤ 2 ^ 62 := by exact_mod_cast Nat.pow_le_pow_right (by decide) (show k ≤ 62 by omega)
  rw [hz_l_toInt ⟨by omega, by omega⟩]

section ZR
variable {p : Program} {l : Launch} {e : Env} {R : Room} {s : State} {m : MethodId} {args : Array Value} {below : List Frame} {meth : Method} {c : Code} {H : Heap} {locs : List Loc} {cells slots : Nat} {Q : State → Prop}
variable {cc : ByteArray} {pc : Nat} {ls : Array Slot} {rest : List Value}

theorem hz_iadd (hexec : p.tables.exec = Jvm.exec) (hb : c.code = cc) {a b : Int} (hdg : decode cc pc = .ok (.iadd, 1)) (k : W p l e R s m args below meth c H locs cells slots Q (F0 m (pc + 1) ls (.int (hz_i (a + b)) :: rest))) : W p l e R s m args below meth c H locs cells slots Q (F0 m pc ls (.int (hz_i b) :: .int (hz_i a) :: rest)) := by
  refine lv_iadd hexec hb hdg ?_
  rw [hz_i_add]
  exact k
theorem hz_isub (hexec : p.tables.exec = Jvm.exec) (hb : c.code = cc) {a b : Int} (hdg : decode cc pc = .ok (.isub, 1)) (k : W p l e R s m args below meth c H locs cells slots Q (F0 m (pc + 1) ls (.int (hz_i (a - b)) :: rest))) : W p l e R s m args below meth c H locs cells slots Q (F0 m pc ls (.int (hz_i b) :: .int (hz_i a) :: rest)) := by
  refine lv_isub hexec hb hdg ?_
  rw [hz_i_sub]
  exact k
theorem hz_imul (hexec : p.tables.exec = Jvm.exec) (hb : c.code = cc) {a b : Int} (hdg : decode cc pc = .ok (.imul, 1)) (k : W p l e R s m args below meth c H locs cells slots Q (F0 m (pc + 1) ls (.int (hz_i (a * b)) :: rest))) : W p l e R s m args below meth c H locs cells slots Q (F0 m pc ls (.int (hz_i b) :: .int (hz_i a) :: rest)) := by
  refine lv_imul hexec hb hdg ?_
  rw [hz_i_mul]
  exact k
theorem hz_idiv (hexec : p.tables.exec = Jvm.exec) (hb : c.code = cc) {a b : Int} (hdg : decode cc pc = .ok (.idiv, 1)) (hne : ¬ b = 0) (ra : hz_rI a) (rb : hz_rI b) (k : W p l e R s m args below meth c H locs cells slots Q (F0 m (pc + 1) ls (.int (hz_i (a.tdiv b)) :: rest))) : W p l e R s m args below meth c H locs cells slots Q (F0 m pc ls (.int (hz_i b) :: .int (hz_i a) :: rest)) := by
  refine lv_idiv hexec hb hdg (fun h => hne ((hz_i_eq rb (b := 0) ⟨by decide, by decide⟩).mp h)) ?_
  rw [hz_i_div ra rb]
  exact k
theorem hz_irem (hexec : p.tables.exec = Jvm.exec) (hb : c.code = cc) {a b : Int} (hdg : decode cc pc = .ok (.irem, 1)) (hne : ¬ b = 0) (ra : hz_rI a) (rb : hz_rI b) (k : W p l e R s m args below meth c H locs cells slots Q (F0 m (pc + 1) ls (.int (hz_i (a.tmod b)) :: rest))) : W p l e R s m args below meth c H locs cells slots Q (F0 m pc ls (.int (hz_i b) :: .int (hz_i a) :: rest)) := by
  refine lv_irem hexec hb hdg (fun h => hne ((hz_i_eq rb (b := 0) ⟨by decide, by decide⟩).mp h)) ?_
  rw [hz_i_rem ra rb]
  exact k
theorem hz_ineg (hexec : p.tables.exec = Jvm.exec) (hb : c.code = cc) {a : Int} (hdg : decode cc pc = .ok (.ineg, 1)) (k : W p l e R s m args below meth c H locs cells slots Q (F0 m (pc + 1) ls (.int (hz_i (-a)) :: rest))) : W p l e R s m args below meth c H locs cells slots Q (F0 m pc ls (.int (hz_i a) :: rest)) := by
  refine lv_ineg hexec hb hdg ?_
  rw [hz_i_neg]
  exact k
theorem hz_ladd (hexec : p.tables.exec = Jvm.exec) (hb : c.code = cc) {a b : Int} (hdg : decode cc pc = .ok (.ladd, 1)) (k : W p l e R s m args below meth c H locs cells slots Q (F0 m (pc + 1) ls (.long (hz_l (a + b)) :: rest))) : W p l e R s m args below meth c H locs cells slots Q (F0 m pc ls (.long (hz_l b) :: .long (hz_l a) :: rest)) := by
  refine lv_ladd hexec hb hdg ?_
  rw [hz_l_add]
  exact k
theorem hz_lsub (hexec : p.tables.exec = Jvm.exec) (hb : c.code = cc) {a b : Int} (hdg : decode cc pc = .ok (.lsub, 1)) (k : W p l e R s m args below meth c H locs cells slots Q (F0 m (pc + 1) ls (.long (hz_l (a - b)) :: rest))) : W p l e R s m args below meth c H locs cells slots Q (F0 m pc ls (.long (hz_l b) :: .long (hz_l a) :: rest)) := by
  refine lv_lsub hexec hb hdg ?_
  rw [hz_l_sub]
  exact k
theorem hz_lmul (hexec : p.tables.exec = Jvm.exec) (hb : c.code = cc) {a b : Int} (hdg : decode cc pc = .ok (.lmul, 1)) (k : W p l e R s m args below meth c H locs cells slots Q (F0 m (pc + 1) ls (.long (hz_l (a * b)) :: rest))) : W p l e R s m args below meth c H locs cells slots Q (F0 m pc ls (.long (hz_l b) :: .long (hz_l a) :: rest)) := by
  refine lv_lmul hexec hb hdg ?_
  rw [hz_l_mul]
  exact k
theorem hz_ldiv (hexec : p.tables.exec = Jvm.exec) (hb : c.code = cc) {a b : Int} (hdg : decode cc pc = .ok (.ldiv, 1)) (hne : ¬ b = 0) (ra : hz_rL a) (rb : hz_rL b) (k : W p l e R s m args below meth c H locs cells slots Q (F0 m (pc + 1) ls (.long (hz_l (a.tdiv b)) :: rest))) : W p l e R s m args below meth c H locs cells slots Q (F0 m pc ls (.long (hz_l b) :: .long (hz_l a) :: rest)) := by
  refine lv_ldiv hexec hb hdg (fun h => hne ((hz_l_eq rb (b := 0) ⟨by decide, by decide⟩).mp h)) ?_
  rw [hz_l_div ra rb]
  exact k
theorem hz_lrem (hexec : p.tables.exec = Jvm.exec) (hb : c.code = cc) {a b : Int} (hdg : decode cc pc = .ok (.lrem, 1)) (hne : ¬ b = 0) (ra : hz_rL a) (rb : hz_rL b) (k : W p l e R s m args below meth c H locs cells slots Q (F0 m (pc + 1) ls (.long (hz_l (a.tmod b)) :: rest))) : W p l e R s m args below meth c H locs cells slots Q (F0 m pc ls (.long (hz_l b) :: .long (hz_l a) :: rest)) := by
  refine lv_lrem hexec hb hdg (fun h => hne ((hz_l_eq rb (b := 0) ⟨by decide, by decide⟩).mp h)) ?_
  rw [hz_l_rem ra rb]
  exact k
theorem hz_lneg (hexec : p.tables.exec = Jvm.exec) (hb : c.code = cc) {a : Int} (hdg : decode cc pc = .ok (.lneg, 1)) (k : W p l e R s m args below meth c H locs cells slots Q (F0 m (pc + 1) ls (.long (hz_l (-a)) :: rest))) : W p l e R s m args below meth c H locs cells slots Q (F0 m pc ls (.long (hz_l a) :: rest)) := by
  refine lv_lneg hexec hb hdg ?_
  rw [hz_l_neg]
  exact k
theorem hz_wi2l (hexec : p.tables.exec = Jvm.exec) (hb : c.code = cc) {a : Int} (hdg : decode cc pc = .ok (.i2l, 1)) (ra : hz_rI a) (k : W p l e R s m args below meth c H locs cells slots Q (F0 m (pc + 1) ls (.long (hz_l a) :: rest))) : W p l e R s m args below meth c H locs cells slots Q (F0 m pc ls (.int (hz_i a) :: rest)) := lv_i2l hexec hb hdg (hz_i2l ra) k
theorem hz_wl2i (hexec : p.tables.exec = Jvm.exec) (hb : c.code = cc) {a : Int} (hdg : decode cc pc = .ok (.l2i, 1)) (k : W p l e R s m args below meth c H locs cells slots Q (F0 m (pc + 1) ls (.int (hz_i a) :: rest))) : W p l e R s m args below meth c H locs cells slots Q (F0 m pc ls (.long (hz_l a) :: rest)) := lv_l2i hexec hb hdg (hz_l2i a) k
theorem hz_wi2b (hexec : p.tables.exec = Jvm.exec) (hb : c.code = cc) {a : Int} (hdg : decode cc pc = .ok (.i2b, 1)) (ra : -128 ≤ a ∧ a < 128) (k : W p l e R s m args below meth c H locs cells slots Q (F0 m (pc + 1) ls (.int (hz_i a) :: rest))) : W p l e R s m args below meth c H locs cells slots Q (F0 m pc ls (.int (hz_i a) :: rest)) := lv_i2b hexec hb hdg (hz_i2b ra) k
theorem hz_land (hexec : p.tables.exec = Jvm.exec) (hb : c.code = cc) {a b : Int} (k : Nat) (hdg : decode cc pc = .ok (.land, 1)) (hk : k < 63) (hm : (hz_l b).toBitVec.toNat = 2 ^ k - 1) (ra : hz_rL a) (kk : W p l e R s m args below meth c H locs cells slots Q (F0 m (pc + 1) ls (.long (hz_l (a % 2 ^ k)) :: rest))) : W p l e R s m args below meth c H locs cells slots Q (F0 m pc ls (.long (hz_l b) :: .long (hz_l a) :: rest)) := by
  refine lv_land hexec hb hdg ?_
  rw [hz_l_mask k ra hk hm]
  exact kk
theorem hz_topi {x : Int} (k : ∀ y : Int, y = x → W p l e R s m args below meth c H locs cells slots Q (F0 m pc ls (.int (hz_i y) :: rest))) : W p l e R s m args below meth c H locs cells slots Q (F0 m pc ls (.int (hz_i x) :: rest)) := k x rfl
theorem hz_topl {x : Int} (k : ∀ y : Int, y = x → W p l e R s m args below meth c H locs cells slots Q (F0 m pc ls (.long (hz_l y) :: rest))) : W p l e R s m args below meth c H locs cells slots Q (F0 m pc ls (.long (hz_l x) :: rest)) := k x rfl
noncomputable def hz_c (a b : Int) : Int := if b < a then 1 else if a = b then 0 else -1
theorem hz_c_r (a b : Int) : hz_rI (hz_c a b) := by unfold hz_c; split <;> (try split) <;> exact ⟨by decide, by decide⟩
theorem hz_c_eq {a b : Int} : hz_c a b = 0 ↔ a = b := by unfold hz_c; split <;> (try split) <;> omega
theorem hz_c_lt {a b : Int} : hz_c a b < 0 ↔ a < b := by unfold hz_c; split <;> (try split) <;> omega
theorem hz_c_ge {a b : Int} : 0 ≤ hz_c a b ↔ b ≤ a := by unfold hz_c; split <;> (try split) <;> omega
theorem hz_c_gt {a b : Int} : 0 < hz_c a b ↔ b < a := by unfold hz_c; split <;> (try split) <;> omega
theorem hz_c_le {a b : Int} : hz_c a b ≤ 0 ↔ a ≤ b := by unfold hz_c; split <;> (try split) <;> omega
theorem hz_cmp {a b : Int} (ra : hz_rL a) (rb : hz_rL b) : lg_cmp (hz_l a) (hz_l b) = hz_i (hz_c a b) := by
  unfold lg_cmp hz_c
  simp only [gt_iff_lt, hz_l_lt rb ra, hz_l_eq ra rb]
  split
  · rfl
  · split <;> rfl
theorem hz_icmp_eq (hexec : p.tables.exec = Jvm.exec) (hb : c.code = cc) {a b : Int} {off : Int} {tgt : Nat} (hdg : decode cc pc = .ok (.if_icmp .eq off, 3)) (ht : (pc : Int) + off = (tgt : Int)) (ra : hz_rI a) (rb : hz_rI b) (kt : a = b → W p l e R s m args below meth c H locs cells slots Q (F0 m tgt ls rest)) (kf : ¬ (a = b) → W p l e R s m args below meth c H locs cells slots Q (F0 m (pc + 3) ls rest)) : W p l e R s m args below meth c H locs cells slots Q (F0 m pc ls (.int (hz_i b) :: .int (hz_i a) :: rest)) := by
  exact lv_icmp_eq hexec hb hdg ht (fun h => kt ((hz_i_eq ra rb).mp h)) (fun h => kf (fun q => h ((hz_i_eq ra rb).mpr q)))
theorem hz_if_eq (hexec : p.tables.exec = Jvm.exec) (hb : c.code = cc) {a : Int} {off : Int} {tgt : Nat} (hdg : decode cc pc = .ok (.ifCond .eq off, 3)) (ht : (pc : Int) + off = (tgt : Int)) (ra : hz_rI a) (kt : a = 0 → W p l e R s m args below meth c H locs cells slots Q (F0 m tgt ls rest)) (kf : ¬ (a = 0) → W p l e R s m args below meth c H locs cells slots Q (F0 m (pc + 3) ls rest)) : W p l e R s m args below meth c H locs cells slots Q (F0 m pc ls (.int (hz_i a) :: rest)) := by
  exact lv_if_eq hexec hb hdg ht (fun h => kt ((hz_i_eq ra hz_r0).mp h)) (fun h => kf (fun q => h ((hz_i_eq ra hz_r0).mpr q)))
theorem hz_lcmp_eq (hexec : p.tables.exec = Jvm.exec) (hb : c.code = cc) {a b : Int} {off : Int} {tgt : Nat} (hd0 : decode cc pc = .ok (.lcmp, 1)) (hdg : decode cc (pc + 1) = .ok (.ifCond .eq off, 3)) (ht : ((pc + 1 : Nat) : Int) + off = (tgt : Int)) (ra : hz_rL a) (rb : hz_rL b) (kt : a = b → W p l e R s m args below meth c H locs cells slots Q (F0 m tgt ls rest)) (kf : ¬ (a = b) → W p l e R s m args below meth c H locs cells slots Q (F0 m (pc + 1 + 3) ls rest)) : W p l e R s m args below meth c H locs cells slots Q (F0 m pc ls (.long (hz_l b) :: .long (hz_l a) :: rest)) := by
  refine W.lcmp hexec hb hd0 ?_
  rw [hz_cmp ra rb]
  exact hz_if_eq hexec hb hdg ht (hz_c_r a b) (fun h => kt (hz_c_eq.mp h)) (fun h => kf (fun q => h (hz_c_eq.mpr q)))
theorem hz_icmp_ne (hexec : p.tables.exec = Jvm.exec) (hb : c.code = cc) {a b : Int} {off : Int} {tgt : Nat} (hdg : decode cc pc = .ok (.if_icmp .ne off, 3)) (ht : (pc : Int) + off = (tgt : Int)) (ra : hz_rI a) (rb : hz_rI b) (kt : ¬ a = b → W p l e R s m args below meth c H locs cells slots Q (F0 m tgt ls rest)) (kf : a = b → W p l e R s m args below meth c H locs cells slots Q (F0 m (pc + 3) ls rest)) : W p l e R s m args below meth c H locs cells slots Q (F0 m pc ls (.int (hz_i b) :: .int (hz_i a) :: rest)) := by
  exact lv_icmp_ne hexec hb hdg ht (fun h => kt (fun q => h ((hz_i_eq ra rb).mpr q))) (fun h => kf ((hz_i_eq ra rb).mp h))
theorem hz_if_ne (hexec : p.tables.exec = Jvm.exec) (hb : c.code = cc) {a : Int} {off : Int} {tgt : Nat} (hdg : decode cc pc = .ok (.ifCond .ne off, 3)) (ht : (pc : Int) + off = (tgt : Int)) (ra : hz_rI a) (kt : ¬ a = 0 → W p l e R s m args below meth c H locs cells slots Q (F0 m tgt ls rest)) (kf : a = 0 → W p l e R s m args below meth c H locs cells slots Q (F0 m (pc + 3) ls rest)) : W p l e R s m args below meth c H locs cells slots Q (F0 m pc ls (.int (hz_i a) :: rest)) := by
  exact lv_if_ne hexec hb hdg ht (fun h => kt (fun q => h ((hz_i_eq ra hz_r0).mpr q))) (fun h => kf ((hz_i_eq ra hz_r0).mp h))
theorem hz_lcmp_ne (hexec : p.tables.exec = Jvm.exec) (hb : c.code = cc) {a b : Int} {off : Int} {tgt : Nat} (hd0 : decode cc pc = .ok (.lcmp, 1)) (hdg : decode cc (pc + 1) = .ok (.ifCond .ne off, 3)) (ht : ((pc + 1 : Nat) : Int) + off = (tgt : Int)) (ra : hz_rL a) (rb : hz_rL b) (kt : ¬ a = b → W p l e R s m args below meth c H locs cells slots Q (F0 m tgt ls rest)) (kf : a = b → W p l e R s m args below meth c H locs cells slots Q (F0 m (pc + 1 + 3) ls rest)) : W p l e R s m args below meth c H locs cells slots Q (F0 m pc ls (.long (hz_l b) :: .long (hz_l a) :: rest)) := by
  refine W.lcmp hexec hb hd0 ?_
  rw [hz_cmp ra rb]
  exact hz_if_ne hexec hb hdg ht (hz_c_r a b) (fun h => kt (fun q => h (hz_c_eq.mpr q))) (fun h => kf (hz_c_eq.mp h))
theorem hz_icmp_lt (hexec : p.tables.exec = Jvm.exec) (hb : c.code = cc) {a b : Int} {off : Int} {tgt : Nat} (hdg : decode cc pc = .ok (.if_icmp .lt off, 3)) (ht : (pc : Int) + off = (tgt : Int)) (ra : hz_rI a) (rb : hz_rI b) (kt : a < b → W p l e R s m args below meth c H locs cells slots Q (F0 m tgt ls rest)) (kf : ¬ (a < b) → W p l e R s m args below meth c H locs cells slots Q (F0 m (pc + 3) ls rest)) : W p l e R s m args below meth c H locs cells slots Q (F0 m pc ls (.int (hz_i b) :: .int (hz_i a) :: rest)) := by
  exact lv_icmp_lt hexec hb hdg ht (fun h => kt ((hz_i_lt ra rb).mp h)) (fun h => kf (fun q => h ((hz_i_lt ra rb).mpr q)))
theorem hz_if_lt (hexec : p.tables.exec = Jvm.exec) (hb : c.code = cc) {a : Int} {off : Int} {tgt : Nat} (hdg : decode cc pc = .ok (.ifCond .lt off, 3)) (ht : (pc : Int) + off = (tgt : Int)) (ra : hz_rI a) (kt : a < 0 → W p l e R s m args below meth c H locs cells slots Q (F0 m tgt ls rest)) (kf : ¬ (a < 0) → W p l e R s m args below meth c H locs cells slots Q (F0 m (pc + 3) ls rest)) : W p l e R s m args below meth c H locs cells slots Q (F0 m pc ls (.int (hz_i a) :: rest)) := by
  exact lv_if_lt hexec hb hdg ht (fun h => kt ((hz_i_lt ra hz_r0).mp h)) (fun h => kf (fun q => h ((hz_i_lt ra hz_r0).mpr q)))
theorem hz_lcmp_lt (hexec : p.tables.exec = Jvm.exec) (hb : c.code = cc) {a b : Int} {off : Int} {tgt : Nat} (hd0 : decode cc pc = .ok (.lcmp, 1)) (hdg : decode cc (pc + 1) = .ok (.ifCond .lt off, 3)) (ht : ((pc + 1 : Nat) : Int) + off = (tgt : Int)) (ra : hz_rL a) (rb : hz_rL b) (kt : a < b → W p l e R s m args below meth c H locs cells slots Q (F0 m tgt ls rest)) (kf : ¬ (a < b) → W p l e R s m args below meth c H locs cells slots Q (F0 m (pc + 1 + 3) ls rest)) : W p l e R s m args below meth c H locs cells slots Q (F0 m pc ls (.long (hz_l b) :: .long (hz_l a) :: rest)) := by
  refine W.lcmp hexec hb hd0 ?_
  rw [hz_cmp ra rb]
  exact hz_if_lt hexec hb hdg ht (hz_c_r a b) (fun h => kt (hz_c_lt.mp h)) (fun h => kf (fun q => h (hz_c_lt.mpr q)))
theorem hz_icmp_ge (hexec : p.tables.exec = Jvm.exec) (hb : c.code = cc) {a b : Int} {off : Int} {tgt : Nat} (hdg : decode cc pc = .ok (.if_icmp .ge off, 3)) (ht : (pc : Int) + off = (tgt : Int)) (ra : hz_rI a) (rb : hz_rI b) (kt : b ≤ a → W p l e R s m args below meth c H locs cells slots Q (F0 m tgt ls rest)) (kf : ¬ (b ≤ a) → W p l e R s m args below meth c H locs cells slots Q (F0 m (pc + 3) ls rest)) : W p l e R s m args below meth c H locs cells slots Q (F0 m pc ls (.int (hz_i b) :: .int (hz_i a) :: rest)) := by
  exact lv_icmp_ge hexec hb hdg ht (fun h => kt ((hz_i_le rb ra).mp h)) (fun h => kf (fun q => h ((hz_i_le rb ra).mpr q)))
theorem hz_if_ge (hexec : p.tables.exec = Jvm.exec) (hb : c.code = cc) {a : Int} {off : Int} {tgt : Nat} (hdg : decode cc pc = .ok (.ifCond .ge off, 3)) (ht : (pc : Int) + off = (tgt : Int)) (ra : hz_rI a) (kt : 0 ≤ a → W p l e R s m args below meth c H locs cells slots Q (F0 m tgt ls rest)) (kf : ¬ (0 ≤ a) → W p l e R s m args below meth c H locs cells slots Q (F0 m (pc + 3) ls rest)) : W p l e R s m args below meth c H locs cells slots Q (F0 m pc ls (.int (hz_i a) :: rest)) := by
  exact lv_if_ge hexec hb hdg ht (fun h => kt ((hz_i_le hz_r0 ra).mp h)) (fun h => kf (fun q => h ((hz_i_le hz_r0 ra).mpr q)))
theorem hz_lcmp_ge (hexec : p.tables.exec = Jvm.exec) (hb : c.code = cc) {a b : Int} {off : Int} {tgt : Nat} (hd0 : decode cc pc = .ok (.lcmp, 1)) (hdg : decode cc (pc + 1) = .ok (.ifCond .ge off, 3)) (ht : ((pc + 1 : Nat) : Int) + off = (tgt : Int)) (ra : hz_rL a) (rb : hz_rL b) (kt : b ≤ a → W p l e R s m args below meth c H locs cells slots Q (F0 m tgt ls rest)) (kf : ¬ (b ≤ a) → W p l e R s m args below meth c H locs cells slots Q (F0 m (pc + 1 + 3) ls rest)) : W p l e R s m args below meth c H locs cells slots Q (F0 m pc ls (.long (hz_l b) :: .long (hz_l a) :: rest)) := by
  refine W.lcmp hexec hb hd0 ?_
  rw [hz_cmp ra rb]
  exact hz_if_ge hexec hb hdg ht (hz_c_r a b) (fun h => kt (hz_c_ge.mp h)) (fun h => kf (fun q => h (hz_c_ge.mpr q)))
theorem hz_icmp_gt (hexec : p.tables.exec = Jvm.exec) (hb : c.code = cc) {a b : Int} {off : Int} {tgt : Nat} (hdg : decode cc pc = .ok (.if_icmp .gt off, 3)) (ht : (pc : Int) + off = (tgt : Int)) (ra : hz_rI a) (rb : hz_rI b) (kt : b < a → W p l e R s m args below meth c H locs cells slots Q (F0 m tgt ls rest)) (kf : ¬ (b < a) → W p l e R s m args below meth c H locs cells slots Q (F0 m (pc + 3) ls rest)) : W p l e R s m args below meth c H locs cells slots Q (F0 m pc ls (.int (hz_i b) :: .int (hz_i a) :: rest)) := by
  exact lv_icmp_gt hexec hb hdg ht (fun h => kt ((hz_i_lt rb ra).mp h)) (fun h => kf (fun q => h ((hz_i_lt rb ra).mpr q)))
theorem hz_if_gt (hexec : p.tables.exec = Jvm.exec) (hb : c.code = cc) {a : Int} {off : Int} {tgt : Nat} (hdg : decode cc pc = .ok (.ifCond .gt off, 3)) (ht : (pc : Int) + off = (tgt : Int)) (ra : hz_rI a) (kt : 0 < a → W p l e R s m args below meth c H locs cells slots Q (F0 m tgt ls rest)) (kf : ¬ (0 < a) → W p l e R s m args below meth c H locs cells slots Q (F0 m (pc + 3) ls rest)) : W p l e R s m args below meth c H locs cells slots Q (F0 m pc ls (.int (hz_i a) :: rest)) := by
  exact lv_if_gt hexec hb hdg ht (fun h => kt ((hz_i_lt hz_r0 ra).mp h)) (fun h => kf (fun q => h ((hz_i_lt hz_r0 ra).mpr q)))
theorem hz_lcmp_gt (hexec : p.tables.exec = Jvm.exec) (hb : c.code = cc) {a b : Int} {off : Int} {tgt : Nat} (hd0 : decode cc pc = .ok (.lcmp, 1)) (hdg : decode cc (pc + 1) = .ok (.ifCond .gt off, 3)) (ht : ((pc + 1 : Nat) : Int) + off = (tgt : Int)) (ra : hz_rL a) (rb : hz_rL b) (kt : b < a → W p l e R s m args below meth c H locs cells slots Q (F0 m tgt ls rest)) (kf : ¬ (b < a) → W p l e R s m args below meth c H locs cells slots Q (F0 m (pc + 1 + 3) ls rest)) : W p l e R s m args below meth c H locs cells slots Q (F0 m pc ls (.long (hz_l b) :: .long (hz_l a) :: rest)) := by
  refine W.lcmp hexec hb hd0 ?_
  rw [hz_cmp ra rb]
  exact hz_if_gt hexec hb hdg ht (hz_c_r a b) (fun h => kt (hz_c_gt.mp h)) (fun h => kf (fun q => h (hz_c_gt.mpr q)))
theorem hz_icmp_le (hexec : p.tables.exec = Jvm.exec) (hb : c.code = cc) {a b : Int} {off : Int} {tgt : Nat} (hdg : decode cc pc = .ok (.if_icmp .le off, 3)) (ht : (pc : Int) + off = (tgt : Int)) (ra : hz_rI a) (rb : hz_rI b) (kt : a ≤ b → W p l e R s m args below meth c H locs cells slots Q (F0 m tgt ls rest)) (kf : ¬ (a ≤ b) → W p l e R s m args below meth c H locs cells slots Q (F0 m (pc + 3) ls rest)) : W p l e R s m args below meth c H locs cells slots Q (F0 m pc ls (.int (hz_i b) :: .int (hz_i a) :: rest)) := by
  exact lv_icmp_le hexec hb hdg ht (fun h => kt ((hz_i_le ra rb).mp h)) (fun h => kf (fun q => h ((hz_i_le ra rb).mpr q)))
theorem hz_if_le (hexec : p.tables.exec = Jvm.exec) (hb : c.code = cc) {a : Int} {off : Int} {tgt : Nat} (hdg : decode cc pc = .ok (.ifCond .le off, 3)) (ht : (pc : Int) + off = (tgt : Int)) (ra : hz_rI a) (kt : a ≤ 0 → W p l e R s m args below meth c H locs cells slots Q (F0 m tgt ls rest)) (kf : ¬ (a ≤ 0) → W p l e R s m args below meth c H locs cells slots Q (F0 m (pc + 3) ls rest)) : W p l e R s m args below meth c H locs cells slots Q (F0 m pc ls (.int (hz_i a) :: rest)) := by
  exact lv_if_le hexec hb hdg ht (fun h => kt ((hz_i_le ra hz_r0).mp h)) (fun h => kf (fun q => h ((hz_i_le ra hz_r0).mpr q)))
theorem hz_lcmp_le (hexec : p.tables.exec = Jvm.exec) (hb : c.code = cc) {a b : Int} {off : Int} {tgt : Nat} (hd0 : decode cc pc = .ok (.lcmp, 1)) (hdg : decode cc (pc + 1) = .ok (.ifCond .le off, 3)) (ht : ((pc + 1 : Nat) : Int) + off = (tgt : Int)) (ra : hz_rL a) (rb : hz_rL b) (kt : a ≤ b → W p l e R s m args below meth c H locs cells slots Q (F0 m tgt ls rest)) (kf : ¬ (a ≤ b) → W p l e R s m args below meth c H locs cells slots Q (F0 m (pc + 1 + 3) ls rest)) : W p l e R s m args below meth c H locs cells slots Q (F0 m pc ls (.long (hz_l b) :: .long (hz_l a) :: rest)) := by
  refine W.lcmp hexec hb hd0 ?_
  rw [hz_cmp ra rb]
  exact hz_if_le hexec hb hdg ht (hz_c_r a b) (fun h => kt (hz_c_le.mp h)) (fun h => kf (fun q => h (hz_c_le.mpr q)))
end ZR

-- 12.shift
theorem hz_l_shr {a : Int} {D : Int64} {d : Nat} (ra : hz_rL a) (hD : (D.toBitVec.smod 64).toNat = d) : hz_l a >>> D = hz_l (a / 2 ^ d) := by
  apply Int64.toInt_inj.mp
  have e : (hz_l a >>> D).toInt = (hz_l a).toInt >>> d := by
    rw [← hD]
    exact BitVec.toInt_sshiftRight ..
  have hp : (0 : Int) < 2 ^ d := Int.pow_pos (by decide)
  have h1 : a / 2 ^ d ≤ (if 0 ≤ a then a else 0) := by
    split
    · next h => exact Int.ediv_le_self _ h
    · next h => exact Int.le_of_lt (Int.ediv_neg_of_neg_of_pos (by omega) hp)
  have h2 : (if 0 ≤ a then 0 else a) ≤ a / 2 ^ d := by
    split
    · next h => exact Int.ediv_nonneg h (Int.le_of_lt hp)
    · next h =>
      refine (Int.le_ediv_iff_mul_le hp).mpr ?_
      have h3 : a * 2 ^ d ≤ a * 1 := Int.mul_le_mul_of_nonpos_left (by omega) (by omega)
      omega
  rw [e, Int.shiftRight_eq_div_pow, hz_l_toInt ra, hz_l_toInt ⟨by split at h2 <;> omega, by split at h1 <;> omega⟩]
  norm_cast
theorem hz_l_ushr {a : Int} {D : UInt64} {d : Nat} (ra : 0 ≤ a ∧ hz_rL a) (hD : D.toNat % 64 = d) : ((hz_l a).toUInt64 >>> D).toInt64 = hz_l (a / 2 ^ d) := by
  obtain ⟨h0, h1, h2⟩ := ra
  obtain ⟨n, rfl⟩ := Int.eq_ofNat_of_zero_le h0
  have hd : n / 2 ^ d ≤ n := Nat.div_le_self _ _
  have e0 : ∀ k : Nat, hz_l (k : Int) = Int64.ofNat k := fun k => by
    unfold hz_l
    first | exact Int64.ofInt_eq_ofNat | rfl | simp
  have e : (Int64.ofNat n).toUInt64 >>> D = UInt64.ofNat (n / 2 ^ d) := UInt64.toNat_inj.mp (by
    rw [UInt64.toNat_shiftRight, hD, Nat.shiftRight_eq_div_pow, UInt64.toNat_ofNat']
    show (UInt64.ofNat n).toNat / 2 ^ d = _
    rw [UInt64.toNat_ofNat', Nat.mod_eq_of_lt (by omega), Nat.mod_eq_of_lt (by omega)])
  have e2 : ((n : Int) / 2 ^ d) = ((n / 2 ^ d : Nat) : Int) := by
    rw [Int.natCast_ediv, Int.natCast_pow]
    rfl
  rw [e2, e0, e0, e]
  rfl
theorem hz_sv : ∀ n : Fin 64, (((hz_i (n.val : Int)).toInt64 &&& 63).toBitVec.smod 64).toNat = n.val := by decide +kernel
section ZS
variable {p : Program} {l : Launch} {e : Env} {R : Room} {s : State} {m : MethodId} {args : Array Value} {below : List Frame} {meth : Method} {c : Code} {H : Heap} {locs : List Loc} {cells slots : Nat} {Q : State → Prop}
variable {cc : ByteArray} {pc : Nat} {ls : Array Slot} {rest : List Value}
theorem hz_wlushr (hexec : p.tables.exec = Jvm.exec) (hb : c.code = cc) {a P sh : Int} {d : Nat} (hdg : decode cc pc = .ok (.lushr, 1)) (ra : 0 ≤ a ∧ hz_rL a) (hD : ((hz_i sh).toInt64.toUInt64 &&& Int64.toUInt64 63).toNat % 64 = d) (hP : (2 : Int) ^ d = P) (k : W p l e R s m args below meth c H locs cells slots Q (F0 m (pc + 1) ls (.long (hz_l (a / P)) :: rest))) : W p l e R s m args below meth c H locs cells slots Q (F0 m pc ls (.int (hz_i sh) :: .long (hz_l a) :: rest)) :=
  lv_lushr hexec hb hdg (by rw [← hP]; exact hz_l_ushr ra hD) k
theorem hz_wlshr (hexec : p.tables.exec = Jvm.exec) (hb : c.code = cc) {a P sh : Int} {d : Nat} (hdg : decode cc pc = .ok (.lshr, 1)) (ra : hz_rL a) (hD : (((hz_i sh).toInt64 &&& 63).toBitVec.smod 64).toNat = d) (hP : (2 : Int) ^ d = P) (k : W p l e R s m args below meth c H locs cells slots Q (F0 m (pc + 1) ls (.long (hz_l (a / P)) :: rest))) : W p l e R s m args below meth c H locs cells slots Q (F0 m pc ls (.int (hz_i sh) :: .long (hz_l a) :: rest)) :=
  lv_lshr hexec hb hdg (by rw [← hP]; exact hz_l_shr ra hD) k
theorem hz_wlshrv (hexec : p.tables.exec = Jvm.exec) (hb : c.code = cc) {a sh : Int} (hdg : decode cc pc = .ok (.lshr, 1)) (ra : hz_rL a) (hs : 0 ≤ sh ∧ sh < 64) (k : W p l e R s m args below meth c H locs cells slots Q (F0 m (pc + 1) ls (.long (hz_l (a / 2 ^ sh.toNat)) :: rest))) : W p l e R s m args below meth c H locs cells slots Q (F0 m pc ls (.int (hz_i sh) :: .long (hz_l a) :: rest)) :=
  lv_lshr hexec hb hdg (hz_l_shr ra (by
    have h := hz_sv ⟨sh.toNat, by omega⟩
    have h2 : ((sh.toNat : Nat) : Int) = sh := by omega
    simp only [h2] at h
    exact h)) k
theorem hz_wland (hexec : p.tables.exec = Jvm.exec) (hb : c.code = cc) {a b P : Int} (d : Nat) (hdg : decode cc pc = .ok (.land, 1)) (hk : d < 63) (hm : (hz_l b).toBitVec.toNat = 2 ^ d - 1) (hP : (2 : Int) ^ d = P) (ra : hz_rL a) (k : W p l e R s m args below meth c H locs cells slots Q (F0 m (pc + 1) ls (.long (hz_l (a % P)) :: rest))) : W p l e R s m args below meth c H locs cells slots Q (F0 m pc ls (.long (hz_l b) :: .long (hz_l a) :: rest)) :=
  hz_land hexec hb d hdg hk hm ra (by rw [hP]; exact k)
theorem mw_HL {H : Heap} {locs : List Loc} {g : JFrame} (hH : H = s.heap) (hL : locs = []) (k : W p l e R s m args below meth c H locs cells slots Q g) : W p l e R s m args below meth c s.heap [] cells slots Q g := by
  subst hH
  subst hL
  exact k
end ZS

-- 13.mworld
/-- arrays of whole numbers -/
noncomputable def hz_a (f : Nat → Int) : Nat → Int32 := fun k => hz_i (f k)
noncomputable def hz_b (f : Nat → Int) : Nat → Int64 := fun k => hz_l (f k)
noncomputable def hz_u (f : Nat → Int) (i v : Int) : Nat → Int := fun k => if k = i.toNat then v else f k
/-- one place of one array changed -/
noncomputable def hz_s (A : Nat → Nat → Int) (k : Nat) (i v : Int) : Nat → Nat → Int := lp_U A k (hz_u (A k) i v)
theorem hz_a_set (f : Nat → Int) {i v : Int} {n : Nat} (hi : 0 ≤ i ∧ i < n) (hn : n < 2 ^ 31) : upd (hz_a f) (hz_i i).toNatClampNeg (hz_i v) = hz_a (hz_u f i v) := by
  have e : (hz_i i).toNatClampNeg = i.toNat := Int32.toNatClampNeg_ofInt_of_le (by omega) (by omega)
  rw [e]
  funext k
  simp only [upd, hz_a, hz_u]
  split <;> rfl
theorem hz_b_set (f : Nat → Int) {i v : Int} {n : Nat} (hi : 0 ≤ i ∧ i < n) (hn : n < 2 ^ 31) : vp_updL (hz_b f) (hz_i i).toNatClampNeg (hz_l v) = hz_b (hz_u f i v) := by
  have e : (hz_i i).toNatClampNeg = i.toNat := Int32.toNatClampNeg_ofInt_of_le (by omega) (by omega)
  rw [e]
  funext k
  simp only [vp_updL, hz_b, hz_u]
  split <;> rfl
theorem hz_ix {i : Int} {n : Nat} (hi : 0 ≤ i ∧ i < n) (hn : n < 2 ^ 31) : (hz_i i).toNatClampNeg = i.toNat := Int32.toNatClampNeg_ofInt_of_le (by omega) (by omega)
theorem hz_in {i : Int} {n : Nat} (hi : 0 ≤ i ∧ i < n) (hn : n < 2 ^ 31) : vp_in (hz_i i) n := vp_in_iff.mpr (by rw [hz_i_toInt ⟨by omega, by omega⟩]; exact hi)
theorem hz_nZ {v : Int} (h : v = 0 ∨ v = 1) : vp_nar .boolean (hz_i v) = hz_i v := by rcases h with rfl | rfl <;> rfl
theorem hz_nB {v : Int} (h : -128 ≤ v ∧ v < 128) : vp_nar .byte (hz_i v) = hz_i v := by rw [vp_nar_byte, hz_i2b h]
theorem hz_tZ {v : Int} (h : v = 0 ∨ v = 1) : narrow .boolean (.int (hz_i v)) = .int (hz_i v) := by rcases h with rfl | rfl <;> rfl
theorem hz_fZ {v : Int} (h : v = 0 ∨ v = 1) : fits .boolean (.int (hz_i v)) = true := by rcases h with rfl | rfl <;> rfl
noncomputable def mw_o (R : Nat → Nat) (z : Nat → Int) : List Value := [.ref (R 0), .ref (R 1), .ref (R 2), .int (hz_i (z 3)), .ref (R 4), .int (hz_i (z 5)), .int (hz_i (z 6)), .ref (R 7), .ref (R 8), .ref (R 9), .int (hz_i (z 10)), .ref (R 11), .int (hz_i (z 12)), .ref (R 13), .ref (R 14), .ref (R 15), .ref (R 16), .ref (R 17), .ref (R 18), .ref (R 19), .ref (R 20), .ref (R 21), .ref (R 22), .ref (R 23), .ref (R 24), .ref (R 25), .ref (R 26), .ref (R 27), .ref (R 28), .ref (R 29), .ref (R 30), .ref (R 31), .int (hz_i (z 32)), .int (hz_i (z 33)), .int (hz_i (z 34)), .int (hz_i (z 35)), .int (hz_i (z 36)), .ref (R 37), .ref (R 38), .ref (R 39), .ref (R 40), .ref (R 41), .ref (R 42), .ref (R 43), .ref (R 44), .int (hz_i (z 45)), .int (hz_i (z 46)), .long (hz_l (z 47)), .long (hz_l (z 48)), .ref (R 49), .ref (R 50), .ref (R 51), .ref (R 52), .ref (R 53), .ref (R 54), .ref (R 55), .ref (R 56), .int (hz_i (z 57))]
noncomputable def mw_w (om : Nat) (R : Nat → Nat) (C : Nat → ClassId) (z : Nat → Int) (A : Nat → Nat → Int) : va_W := [(om, .inr (12, mw_o R z)), (R 0, .inl (C 0, 553480, .inl (hz_a (A 0)))), (R 1, .inl (C 1, 4250, .inl (hz_a (A 1)))), (R 2, .inl (C 2, 4250, .inl (hz_a (A 2)))), (R 4, .inl (C 4, 4000, .inl (hz_a (A 4)))), (R 7, .inl (C 7, 4001, .inl (hz_a (A 7)))), (R 8, .inl (C 8, 4001, .inl (hz_a (A 8)))), (R 9, .inl (C 9, 4001, .inl (hz_a (A 9)))), (R 11, .inl (C 11, 16100, .inl (hz_a (A 11)))), (R 13, .inl (C 13, 2, .inl (hz_a (A 13)))), (R 14, .inl (C 14, 2, .inl (hz_a (A 14)))), (R 15, .inl (C 15, 2, .inl (hz_a (A 15)))), (R 16, .inl (C 16, 2, .inl (hz_a (A 16)))), (R 17, .inl (C 17, 800, .inr (.inl (hz_b (A 17))))), (R 18, .inl (C 18, 800, .inr (.inl (hz_b (A 18))))), (R 19, .inl (C 19, 800, .inr (.inl (hz_b (A 19))))), (R 20, .inl (C 20, 800, .inl (hz_a (A 20)))), (R 21, .inl (C 21, 800, .inl (hz_a (A 21)))), (R 22, .inl (C 22, 16000, .inl (hz_a (A 22)))), (R 23, .inl (C 23, 16000, .inl (hz_a (A 23)))), (R 24, .inl (C 24, 2, .inl (hz_a (A 24)))), (R 25, .inl (C 25, 2, .inr (.inl (hz_b (A 25))))), (R 26, .inl (C 26, 4, .inl (hz_a (A 26)))), (R 27, .inl (C 27, 40, .inl (hz_a (A 27)))), (R 28, .inl (C 28, 40, .inl (hz_a (A 28)))), (R 29, .inl (C 29, 40, .inl (hz_a (A 29)))), (R 30, .inl (C 30, 800, .inl (hz_a (A 30)))), (R 31, .inl (C 31, 800, .inl (hz_a (A 31)))), (R 37, .inl (C 37, 24, .inl (hz_a (A 37)))), (R 38, .inl (C 38, 24, .inl (hz_a (A 38)))), (R 39, .inl (C 39, 24, .inl (hz_a (A 39)))), (R 40, .inl (C 40, 24, .inl (hz_a (A 40)))), (R 41, .inl (C 41, 24, .inr (.inl (hz_b (A 41))))), (R 42, .inl (C 42, 24, .inr (.inl (hz_b (A 42))))), (R 43, .inl (C 43, 216, .inr (.inl (hz_b (A 43))))), (R 44, .inl (C 44, 216, .inr (.inl (hz_b (A 44))))), (R 49, .inl (C 49, 80, .inl (hz_a (A 49)))), (R 50, .inl (C 50, 80, .inl (hz_a (A 50)))), (R 51, .inl (C 51, 4, .inl (hz_a (A 51)))), (R 52, .inl (C 52, 20, .inl (hz_a (A 52)))), (R 53, .inl (C 53, 20, .inl (hz_a (A 53)))), (R 54, .inl (C 54, 65, .inl (hz_a (A 54)))), (R 55, .inl (C 55, 65, .inl (hz_a (A 55)))), (R 56, .inl (C 56, 2000, .inl (hz_a (A 56))))]
noncomputable def mw_t (C : Nat → ClassId) : List (ClassId × FieldType) := [(C 0, .int), (C 1, .int), (C 2, .boolean), (C 4, .byte), (C 7, .int), (C 8, .int), (C 9, .int), (C 11, .int), (C 13, .int), (C 14, .int), (C 15, .int), (C 16, .int), (C 17, .long), (C 18, .long), (C 19, .long), (C 20, .int), (C 21, .int), (C 22, .int), (C 23, .int), (C 24, .int), (C 25, .long), (C 26, .int), (C 27, .int), (C 28, .int), (C 29, .int), (C 30, .int), (C 31, .int), (C 37, .int), (C 38, .int), (C 39, .int), (C 40, .int), (C 41, .long), (C 42, .long), (C 43, .long), (C 44, .long), (C 49, .int), (C 50, .int), (C 51, .boolean), (C 52, .int), (C 53, .int), (C 54, .int), (C 55, .int), (C 56, .int)]
theorem mw_a0 (om : Nat) (R : Nat → Nat) (C : Nat → ClassId) (z : Nat → Int) (A : Nat → Nat → Int) (f : Nat → Int) : (mw_w om R C z A).set 1 (R 0, .inl (C 0, 553480, .inl (hz_a f))) = mw_w om R C z (lp_U A 0 f) := rfl
theorem mw_a1 (om : Nat) (R : Nat → Nat) (C : Nat → ClassId) (z : Nat → Int) (A : Nat → Nat → Int) (f : Nat → Int) : (mw_w om R C z A).set 2 (R 1, .inl (C 1, 4250, .inl (hz_a f))) = mw_w om R C z (lp_U A 1 f) := rfl
theorem mw_a2 (om : Nat) (R : Nat → Nat) (C : Nat → ClassId) (z : Nat → Int) (A : Nat → Nat → Int) (f : Nat → Int) : (mw_w om R C z A).set 3 (R 2, .inl (C 2, 4250, .inl (hz_a f))) = mw_w om R C z (lp_U A 2 f) := rfl
theorem mw_s3 (R : Nat → Nat) (z : Nat → Int) (v : Int) : (mw_o R z).set 3 (.int (hz_i v)) = mw_o R (lp_U z 3 v) := rfl
theorem mw_a4 (om : Nat) (R : Nat → Nat) (C : Nat → ClassId) (z : Nat → Int) (A : Nat → Nat → Int) (f : Nat → Int) : (mw_w om R C z A).set 4 (R 4, .inl (C 4, 4000, .inl (hz_a f))) = mw_w om R C z (lp_U A 4 f) := rfl
theorem mw_s5 (R : Nat → Nat) (z : Nat → Int) (v : Int) : (mw_o R z).set 5 (.int (hz_i v)) = mw_o R (lp_U z 5 v) := rfl
theorem mw_s6 (R : Nat → Nat) (z : Nat → Int) (v : Int) : (mw_o R z).set 6 (.int (hz_i v)) = mw_o R (lp_U z 6 v) := rfl
theorem mw_a7 (om : Nat) (R : Nat → Nat) (C : Nat → ClassId) (z : Nat → Int) (A : Nat → Nat → Int) (f : Nat → Int) : (mw_w om R C z A).set 5 (R 7, .inl (C 7, 4001, .inl (hz_a f))) = mw_w om R C z (lp_U A 7 f) := rfl
theorem mw_a8 (om : Nat) (R : Nat → Nat) (C : Nat → ClassId) (z : Nat → Int) (A : Nat → Nat → Int) (f : Nat → Int) : (mw_w om R C z A).set 6 (R 8, .inl (C 8, 4001, .inl (hz_a f))) = mw_w om R C z (lp_U A 8 f) := rfl
theorem mw_a9 (om : Nat) (R : Nat → Nat) (C : Nat → ClassId) (z : Nat → Int) (A : Nat → Nat → Int) (f : Nat → Int) : (mw_w om R C z A).set 7 (R 9, .inl (C 9, 4001, .inl (hz_a f))) = mw_w om R C z (lp_U A 9 f) := rfl
theorem mw_s10 (R : Nat → Nat) (z : Nat → Int) (v : Int) : (mw_o R z).set 10 (.int (hz_i v)) = mw_o R (lp_U z 10 v) := rfl
theorem mw_a11 (om : Nat) (R : Nat → Nat) (C : Nat → ClassId) (z : Nat → Int) (A : Nat → Nat → Int) (f : Nat → Int) : (mw_w om R C z A).set 8 (R 11, .inl (C 11, 16100, .inl (hz_a f))) = mw_w om R C z (lp_U A 11 f) := rfl
theorem mw_s12 (R : Nat → Nat) (z : Nat → Int) (v : Int) : (mw_o R z).set 12 (.int (hz_i v)) = mw_o R (lp_U z 12 v) := rfl
theorem mw_a13 (om : Nat) (R : Nat → Nat) (C : Nat → ClassId) (z : Nat → Int) (A : Nat → Nat → Int) (f : Nat → Int) : (mw_w om R C z A).set 9 (R 13, .inl (C 13, 2, .inl (hz_a f))) = mw_w om R C z (lp_U A 13 f) := rfl
theorem mw_a14 (om : Nat) (R : Nat → Nat) (C : Nat → ClassId) (z : Nat → Int) (A : Nat → Nat → Int) (f : Nat → Int) : (mw_w om R C z A).set 10 (R 14, .inl (C 14, 2, .inl (hz_a f))) = mw_w om R C z (lp_U A 14 f) := rfl
theorem mw_a15 (om : Nat) (R : Nat → Nat) (C : Nat → ClassId) (z : Nat → Int) (A : Nat → Nat → Int) (f : Nat → Int) : (mw_w om R C z A).set 11 (R 15, .inl (C 15, 2, .inl (hz_a f))) = mw_w om R C z (lp_U A 15 f) := rfl
theorem mw_a16 (om : Nat) (R : Nat → Nat) (C : Nat → ClassId) (z : Nat → Int) (A : Nat → Nat → Int) (f : Nat → Int) : (mw_w om R C z A).set 12 (R 16, .inl (C 16, 2, .inl (hz_a f))) = mw_w om R C z (lp_U A 16 f) := rfl
theorem mw_a17 (om : Nat) (R : Nat → Nat) (C : Nat → ClassId) (z : Nat → Int) (A : Nat → Nat → Int) (f : Nat → Int) : (mw_w om R C z A).set 13 (R 17, .inl (C 17, 800, .inr (.inl (hz_b f)))) = mw_w om R C z (lp_U A 17 f) := rfl
theorem mw_a18 (om : Nat) (R : Nat → Nat) (C : Nat → ClassId) (z : Nat → Int) (A : Nat → Nat → Int) (f : Nat → Int) : (mw_w om R C z A).set 14 (R 18, .inl (C 18, 800, .inr (.inl (hz_b f)))) = mw_w om R C z (lp_U A 18 f) := rfl
theorem mw_a19 (om : Nat) (R : Nat → Nat) (C : Nat → ClassId) (z : Nat → Int) (A : Nat → Nat → Int) (f : Nat → Int) : (mw_w om R C z A).set 15 (R 19, .inl (C 19, 800, .inr (.inl (hz_b f)))) = mw_w om R C z (lp_U A 19 f) := rfl
theorem mw_a20 (om : Nat) (R : Nat → Nat) (C : Nat → ClassId) (z : Nat → Int) (A : Nat → Nat → Int) (f : Nat → Int) : (mw_w om R C z A).set 16 (R 20, .inl (C 20, 800, .inl (hz_a f))) = mw_w om R C z (lp_U A 20 f) := rfl
theorem mw_a21 (om : Nat) (R : Nat → Nat) (C : Nat → ClassId) (z : Nat → Int) (A : Nat → Nat → Int) (f : Nat → Int) : (mw_w om R C z A).set 17 (R 21, .inl (C 21, 800, .inl (hz_a f))) = mw_w om R C z (lp_U A 21 f) := rfl
theorem mw_a22 (om : Nat) (R : Nat → Nat) (C : Nat → ClassId) (z : Nat → Int) (A : Nat → Nat → Int) (f : Nat → Int) : (mw_w om R C z A).set 18 (R 22, .inl (C 22, 16000, .inl (hz_a f))) = mw_w om R C z (lp_U A 22 f) := rfl
theorem mw_a23 (om : Nat) (R : Nat → Nat) (C : Nat → ClassId) (z : Nat → Int) (A : Nat → Nat → Int) (f : Nat → Int) : (mw_w om R C z A).set 19 (R 23, .inl (C 23, 16000, .inl (hz_a f))) = mw_w om R C z (lp_U A 23 f) := rfl
theorem mw_a24 (om : Nat) (R : Nat → Nat) (C : Nat → ClassId) (z : Nat → Int) (A : Nat → Nat → Int) (f : Nat → Int) : (mw_w om R C z A).set 20 (R 24, .inl (C 24, 2, .inl (hz_a f))) = mw_w om R C z (lp_U A 24 f) := rfl
theorem mw_a25 (om : Nat) (R : Nat → Nat) (C : Nat → ClassId) (z : Nat → Int) (A : Nat → Nat → Int) (f : Nat → Int) : (mw_w om R C z A).set 21 (R 25, .inl (C 25, 2, .inr (.inl (hz_b f)))) = mw_w om R C z (lp_U A 25 f) := rfl
theorem mw_a26 (om : Nat) (R : Nat → Nat) (C : Nat → ClassId) (z : Nat → Int) (A : Nat → Nat → Int) (f : Nat → Int) : (mw_w om R C z A).set 22 (R 26, .inl (C 26, 4, .inl (hz_a f))) = mw_w om R C z (lp_U A 26 f) := rfl
theorem mw_a27 (om : Nat) (R : Nat → Nat) (C : Nat → ClassId) (z : Nat → Int) (A : Nat → Nat → Int) (f : Nat → Int) : (mw_w om R C z A).set 23 (R 27, .inl (C 27, 40, .inl (hz_a f))) = mw_w om R C z (lp_U A 27 f) := rfl
theorem mw_a28 (om : Nat) (R : Nat → Nat) (C : Nat → ClassId) (z : Nat → Int) (A : Nat → Nat → Int) (f : Nat → Int) : (mw_w om R C z A).set 24 (R 28, .inl (C 28, 40, .inl (hz_a f))) = mw_w om R C z (lp_U A 28 f) := rfl
theorem mw_a29 (om : Nat) (R : Nat → Nat) (C : Nat → ClassId) (z : Nat → Int) (A : Nat → Nat → Int) (f : Nat → Int) : (mw_w om R C z A).set 25 (R 29, .inl (C 29, 40, .inl (hz_a f))) = mw_w om R C z (lp_U A 29 f) := rfl
theorem mw_a30 (om : Nat) (R : Nat → Nat) (C : Nat → ClassId) (z : Nat → Int) (A : Nat → Nat → Int) (f : Nat → Int) : (mw_w om R C z A).set 26 (R 30, .inl (C 30, 800, .inl (hz_a f))) = mw_w om R C z (lp_U A 30 f) := rfl
theorem mw_a31 (om : Nat) (R : Nat → Nat) (C : Nat → ClassId) (z : Nat → Int) (A : Nat → Nat → Int) (f : Nat → Int) : (mw_w om R C z A).set 27 (R 31, .inl (C 31, 800, .inl (hz_a f))) = mw_w om R C z (lp_U A 31 f) := rfl
theorem mw_s32 (R : Nat → Nat) (z : Nat → Int) (v : Int) : (mw_o R z).set 32 (.int (hz_i v)) = mw_o R (lp_U z 32 v) := rfl
theorem mw_s33 (R : Nat → Nat) (z : Nat → Int) (v : Int) : (mw_o R z).set 33 (.int (hz_i v)) = mw_o R (lp_U z 33 v) := rfl
theorem mw_s34 (R : Nat → Nat) (z : Nat → Int) (v : Int) : (mw_o R z).set 34 (.int (hz_i v)) = mw_o R (lp_U z 34 v) := rfl
theorem mw_s35 (R : Nat → Nat) (z : Nat → Int) (v : Int) : (mw_o R z).set 35 (.int (hz_i v)) = mw_o R (lp_U z 35 v) := rfl
theorem mw_s36 (R : Nat → Nat) (z : Nat → Int) (v : Int) : (mw_o R z).set 36 (.int (hz_i v)) = mw_o R (lp_U z 36 v) := rfl
theorem mw_a37 (om : Nat) (R : Nat → Nat) (C : Nat → ClassId) (z : Nat → Int) (A : Nat → Nat → Int) (f : Nat → Int) : (mw_w om R C z A).set 28 (R 37, .inl (C 37, 24, .inl (hz_a f))) = mw_w om R C z (lp_U A 37 f) := rfl
theorem mw_a38 (om : Nat) (R : Nat → Nat) (C : Nat → ClassId) (z : Nat → Int) (A : Nat → Nat → Int) (f : Nat → Int) : (mw_w om R C z A).set 29 (R 38, .inl (C 38, 24, .inl (hz_a f))) = mw_w om R C z (lp_U A 38 f) := rfl
theorem mw_a39 (om : Nat) (R : Nat → Nat) (C : Nat → ClassId) (z : Nat → Int) (A : Nat → Nat → Int) (f : Nat → Int) : (mw_w om R C z A).set 30 (R 39, .inl (C 39, 24, .inl (hz_a f))) = mw_w om R C z (lp_U A 39 f) := rfl
theorem mw_a40 (om : Nat) (R : Nat → Nat) (C : Nat → ClassId) (z : Nat → Int) (A : Nat → Nat → Int) (f : Nat → Int) : (mw_w om R C z A).set 31 (R 40, .inl (C 40, 24, .inl (hz_a f))) = mw_w om R C z (lp_U A 40 f) := rfl
theorem mw_a41 (om : Nat) (R : Nat → Nat) (C : Nat → ClassId) (z : Nat → Int) (A : Nat → Nat → Int) (f : Nat → Int) : (mw_w om R C z A).set 32 (R 41, .inl (C 41, 24, .inr (.inl (hz_b f)))) = mw_w om R C z (lp_U A 41 f) := rfl
theorem mw_a42 (om : Nat) (R : Nat → Nat) (C : Nat → ClassId) (z : Nat → Int) (A : Nat → Nat → Int) (f : Nat → Int) : (mw_w om R C z A).set 33 (R 42, .inl (C 42, 24, .inr (.inl (hz_b f)))) = mw_w om R C z (lp_U A 42 f) := rfl
theorem mw_a43 (om : Nat) (R : Nat → Nat) (C : Nat → ClassId) (z : Nat → Int) (A : Nat → Nat → Int) (f : Nat → Int) : (mw_w om R C z A).set 34 (R 43, .inl (C 43, 216, .inr (.inl (hz_b f)))) = mw_w om R C z (lp_U A 43 f) := rfl
theorem mw_a44 (om : Nat) (R : Nat → Nat) (C : Nat → ClassId) (z : Nat → Int) (A : Nat → Nat → Int) (f : Nat → Int) : (mw_w om R C z A).set 35 (R 44, .inl (C 44, 216, .inr (.inl (hz_b f)))) = mw_w om R C z (lp_U A 44 f) := rfl
theorem mw_s45 (R : Nat → Nat) (z : Nat → Int) (v : Int) : (mw_o R z).set 45 (.int (hz_i v)) = mw_o R (lp_U z 45 v) := rfl
theorem mw_s46 (R : Nat → Nat) (z : Nat → Int) (v : Int) : (mw_o R z).set 46 (.int (hz_i v)) = mw_o R (lp_U z 46 v) := rfl
theorem mw_s47 (R : Nat → Nat) (z : Nat → Int) (v : Int) : (mw_o R z).set 47 (.long (hz_l v)) = mw_o R (lp_U z 47 v) := rfl
theorem mw_s48 (R : Nat → Nat) (z : Nat → Int) (v : Int) : (mw_o R z).set 48 (.long (hz_l v)) = mw_o R (lp_U z 48 v) := rfl
theorem mw_a49 (om : Nat) (R : Nat → Nat) (C : Nat → ClassId) (z : Nat → Int) (A : Nat → Nat → Int) (f : Nat → Int) : (mw_w om R C z A).set 36 (R 49, .inl (C 49, 80, .inl (hz_a f))) = mw_w om R C z (lp_U A 49 f) := rfl
theorem mw_a50 (om : Nat) (R : Nat → Nat) (C : Nat → ClassId) (z : Nat → Int) (A : Nat → Nat → Int) (f : Nat → Int) : (mw_w om R C z A).set 37 (R 50, .inl (C 50, 80, .inl (hz_a f))) = mw_w om R C z (lp_U A 50 f) := rfl
theorem mw_a51 (om : Nat) (R : Nat → Nat) (C : Nat → ClassId) (z : Nat → Int) (A : Nat → Nat → Int) (f : Nat → Int) : (mw_w om R C z A).set 38 (R 51, .inl (C 51, 4, .inl (hz_a f))) = mw_w om R C z (lp_U A 51 f) := rfl
theorem mw_a52 (om : Nat) (R : Nat → Nat) (C : Nat → ClassId) (z : Nat → Int) (A : Nat → Nat → Int) (f : Nat → Int) : (mw_w om R C z A).set 39 (R 52, .inl (C 52, 20, .inl (hz_a f))) = mw_w om R C z (lp_U A 52 f) := rfl
theorem mw_a53 (om : Nat) (R : Nat → Nat) (C : Nat → ClassId) (z : Nat → Int) (A : Nat → Nat → Int) (f : Nat → Int) : (mw_w om R C z A).set 40 (R 53, .inl (C 53, 20, .inl (hz_a f))) = mw_w om R C z (lp_U A 53 f) := rfl
theorem mw_a54 (om : Nat) (R : Nat → Nat) (C : Nat → ClassId) (z : Nat → Int) (A : Nat → Nat → Int) (f : Nat → Int) : (mw_w om R C z A).set 41 (R 54, .inl (C 54, 65, .inl (hz_a f))) = mw_w om R C z (lp_U A 54 f) := rfl
theorem mw_a55 (om : Nat) (R : Nat → Nat) (C : Nat → ClassId) (z : Nat → Int) (A : Nat → Nat → Int) (f : Nat → Int) : (mw_w om R C z A).set 42 (R 55, .inl (C 55, 65, .inl (hz_a f))) = mw_w om R C z (lp_U A 55 f) := rfl
theorem mw_a56 (om : Nat) (R : Nat → Nat) (C : Nat → ClassId) (z : Nat → Int) (A : Nat → Nat → Int) (f : Nat → Int) : (mw_w om R C z A).set 43 (R 56, .inl (C 56, 2000, .inl (hz_a f))) = mw_w om R C z (lp_U A 56 f) := rfl
theorem mw_s57 (R : Nat → Nat) (z : Nat → Int) (v : Int) : (mw_o R z).set 57 (.int (hz_i v)) = mw_o R (lp_U z 57 v) := rfl
section MW
variable {p : Program} {l : Launch} {e : Env} {Ro : Room} {s : State} {m : MethodId} {args : Array Value} {below : List Frame} {meth : Method} {c : Code} {H : Heap} {locs : List Loc} {cells slots : Nat} {Q : State → Prop}
variable {cc : ByteArray} {pc : Nat} {ls : Array Slot} {rest : List Value} {D : va_G} {Ad : Nat → Prop} {H0 : Heap} {om : Nat} {R : Nat → Nat} {C : Nat → ClassId} {z : Nat → Int} {A : Nat → Nat → Int}
theorem mw_get (hexec : p.tables.exec = Jvm.exec) (hb : c.code = cc) {index : Nat} {Ts : List Cond} (hts : ∀ w ∈ Ts, w.before args s = true) (hin : ∀ w ∈ u_ws RX12 TX12 58, w ∈ Ts) (hown : s.vm.findClass RX12 = some m.cls) (hK : va_K D vwCl (mw_t C) s) (hP : va_P D vwCl (mw_w om R C z A) H) (k : Nat) (hk : k < 58) (hlink : (Cond.fieldLink RX12 index "HiddenMovesModel" (TX12 k).2.1 (TX12 k).2.2.1).before args s = true) (hsame : ∀ x, s.fieldFound? (TX12 k).1 (TX12 k).2.1 (TX12 k).2.2.1 = some x → s.fieldFound? "HiddenMovesModel" (TX12 k).2.1 (TX12 k).2.2.1 = some x) {v : Value} (hv : (mw_o R z)[k]? = some v) (hdg : decode cc pc = .ok (.getfield index, 3)) (kk : W p l e Ro s m args below meth c H locs cells slots Q (F0 m (pc + 3) ls (v :: rest))) : W p l e Ro s m args below meth c H locs cells slots Q (F0 m pc ls (.ref om :: rest)) := va_get (ref := "HiddenMovesModel") hexec hb hts hin hown hK hP 0 rfl rfl k hk hlink hsame hv hdg kk
theorem mw_put (hexec : p.tables.exec = Jvm.exec) (hb : c.code = cc) {index : Nat} {Ts : List Cond} (hts : ∀ w ∈ Ts, w.before args s = true) (hin : ∀ w ∈ u_ws RX12 TX12 58, w ∈ Ts) (hown : s.vm.findClass RX12 = some m.cls) (hK : va_K D vwCl (mw_t C) s) (hP : va_P D vwCl (mw_w om R C z A) H) (hD : va_D Ad (mw_w om R C z A)) (hS : va_S Ad H0 H locs) (k : Nat) (hk : k < 58) (hlink : (Cond.fieldLink RX12 index "HiddenMovesModel" (TX12 k).2.1 (TX12 k).2.2.1).before args s = true) (hsame : ∀ x, s.fieldFound? (TX12 k).1 (TX12 k).2.1 (TX12 k).2.2.1 = some x → s.fieldFound? "HiddenMovesModel" (TX12 k).2.1 (TX12 k).2.2.1 = some x) (hfin : (TX12 k).2.2.2 = false) {ty : FieldType} {v : Value} (hd : parseFieldDescriptor (TX12 k).2.2.1 = some ty) (hn : narrow ty v = v) (hfit : fits ty v = true) {z1 : Nat → Int} (hset : (mw_o R z).set k v = mw_o R z1) (hdg : decode cc pc = .ok (.putfield index, 3)) (kk : ∀ (H1 : Heap) (locs1 : List Loc), va_P D vwCl (mw_w om R C z1 A) H1 → va_D Ad (mw_w om R C z1 A) → va_S Ad H0 H1 locs1 → W p l e Ro s m args below meth c H1 locs1 cells slots Q (F0 m (pc + 3) ls (rest))) : W p l e Ro s m args below meth c H locs cells slots Q (F0 m pc ls (v :: .ref om :: rest)) := by
  refine va_put (ref := "HiddenMovesModel") hexec hb hts hin tyX12 tyX12_ok nmX12 hown hK hP hD hS 0 rfl rfl k hk hlink hsame hfin hd hn hfit hk hdg (fun H1 locs1 h1 h2 h3 => ?_)
  have e : (mw_w om R C z A).set 0 (om, .inr (12, (mw_o R z).set k v)) = mw_w om R C z1 A := by
    rw [hset]
    rfl
  rw [e] at h1 h2
  exact kk H1 locs1 h1 h2 h3
theorem mw_ild (hexec : p.tables.exec = Jvm.exec) (hb : c.code = cc) (hK : va_K D vwCl (mw_t C) s) (hP : va_P D vwCl (mw_w om R C z A) H) (q0 t0 : Nat) {k n : Nat} (ha : (mw_w om R C z A)[q0]? = some (R k, .inl (C k, n, .inl (hz_a (A k))))) (ht : (mw_t C)[t0]? = some (C k, .int)) {i : Int} (hi : 0 ≤ i ∧ i < n) (hn : n < 2 ^ 31) (hdg : decode cc pc = .ok (.iaload, 1)) (kk : W p l e Ro s m args below meth c H locs cells slots Q (F0 m (pc + 1) ls (.int (hz_i (A k i.toNat)) :: rest))) : W p l e Ro s m args below meth c H locs cells slots Q (F0 m pc ls (.int (hz_i i) :: .ref (R k) :: rest)) := by
  refine va_iald hexec hb hK hP q0 t0 ha ht (hz_in hi hn) hdg ?_
  rw [hz_ix hi hn]
  exact kk
theorem mw_bld (hexec : p.tables.exec = Jvm.exec) (hb : c.code = cc) (hK : va_K D vwCl (mw_t C) s) (hP : va_P D vwCl (mw_w om R C z A) H) (q0 t0 : Nat) {k n : Nat} (ha : (mw_w om R C z A)[q0]? = some (R k, .inl (C k, n, .inl (hz_a (A k))))) (ht : (mw_t C)[t0]? = some (C k, .byte)) {i : Int} (hi : 0 ≤ i ∧ i < n) (hn : n < 2 ^ 31) (hdg : decode cc pc = .ok (.baload, 1)) (kk : W p l e Ro s m args below meth c H locs cells slots Q (F0 m (pc + 1) ls (.int (hz_i (A k i.toNat)) :: rest))) : W p l e Ro s m args below meth c H locs cells slots Q (F0 m pc ls (.int (hz_i i) :: .ref (R k) :: rest)) := by
  refine va_bald hexec hb hK hP q0 t0 ha ht (hz_in hi hn) hdg ?_
  rw [hz_ix hi hn]
  exact kk
theorem mw_zld (hexec : p.tables.exec = Jvm.exec) (hb : c.code = cc) (hK : va_K D vwCl (mw_t C) s) (hP : va_P D vwCl (mw_w om R C z A) H) (q0 t0 : Nat) {k n : Nat} (ha : (mw_w om R C z A)[q0]? = some (R k, .inl (C k, n, .inl (hz_a (A k))))) (ht : (mw_t C)[t0]? = some (C k, .boolean)) {i : Int} (hi : 0 ≤ i ∧ i < n) (hn : n < 2 ^ 31) (hdg : decode cc pc = .ok (.baload, 1)) (kk : W p l e Ro s m args below meth c H locs cells slots Q (F0 m (pc + 1) ls (.int (hz_i (A k i.toNat)) :: rest))) : W p l e Ro s m args below meth c H locs cells slots Q (F0 m pc ls (.int (hz_i i) :: .ref (R k) :: rest)) := by
  refine va_zald hexec hb hK hP q0 t0 ha ht (hz_in hi hn) hdg ?_
  rw [hz_ix hi hn]
  exact kk
theorem mw_lld (hexec : p.tables.exec = Jvm.exec) (hb : c.code = cc) (hK : va_K D vwCl (mw_t C) s) (hP : va_P D vwCl (mw_w om R C z A) H) (q0 t0 : Nat) {k n : Nat} (ha : (mw_w om R C z A)[q0]? = some (R k, .inl (C k, n, .inr (.inl (hz_b (A k)))))) (ht : (mw_t C)[t0]? = some (C k, .long)) {i : Int} (hi : 0 ≤ i ∧ i < n) (hn : n < 2 ^ 31) (hdg : decode cc pc = .ok (.laload, 1)) (kk : W p l e Ro s m args below meth c H locs cells slots Q (F0 m (pc + 1) ls (.long (hz_l (A k i.toNat)) :: rest))) : W p l e Ro s m args below meth c H locs cells slots Q (F0 m pc ls (.int (hz_i i) :: .ref (R k) :: rest)) := by
  refine va_lald hexec hb hK hP q0 t0 ha ht (hz_in hi hn) hdg ?_
  rw [hz_ix hi hn]
  exact kk
theorem mw_ist (hexec : p.tables.exec = Jvm.exec) (hb : c.code = cc) (hK : va_K D vwCl (mw_t C) s) (hP : va_P D vwCl (mw_w om R C z A) H) (hD : va_D Ad (mw_w om R C z A)) (hS : va_S Ad H0 H locs) (q0 t0 : Nat) {k n : Nat} (ha : (mw_w om R C z A)[q0]? = some (R k, .inl (C k, n, .inl (hz_a (A k))))) (ht : (mw_t C)[t0]? = some (C k, .int)) (hset : ∀ f : Nat → Int, (mw_w om R C z A).set q0 (R k, .inl (C k, n, .inl (hz_a f))) = mw_w om R C z (lp_U A k f)) {i v : Int} (hi : 0 ≤ i ∧ i < n) (hn : n < 2 ^ 31) (hdg : decode cc pc = .ok (.iastore, 1)) (kk : ∀ (H1 : Heap) (locs1 : List Loc), va_P D vwCl (mw_w om R C z (hz_s A k i v)) H1 → va_D Ad (mw_w om R C z (hz_s A k i v)) → va_S Ad H0 H1 locs1 → W p l e Ro s m args below meth c H1 locs1 cells slots Q (F0 m (pc + 1) ls (rest))) : W p l e Ro s m args below meth c H locs cells slots Q (F0 m pc ls (.int (hz_i v) :: .int (hz_i i) :: .ref (R k) :: rest)) := by
  refine va_iast hexec hb hK hP hD hS q0 t0 ha ht (hz_in hi hn) hdg (fun H1 locs1 h1 h2 h3 => ?_)
  rw [hz_a_set (A k) hi hn, hset] at h1 h2
  exact kk H1 locs1 h1 h2 h3
theorem mw_bst (hexec : p.tables.exec = Jvm.exec) (hb : c.code = cc) (hK : va_K D vwCl (mw_t C) s) (hP : va_P D vwCl (mw_w om R C z A) H) (hD : va_D Ad (mw_w om R C z A)) (hS : va_S Ad H0 H locs) (q0 t0 : Nat) {k n : Nat} (ha : (mw_w om R C z A)[q0]? = some (R k, .inl (C k, n, .inl (hz_a (A k))))) (ht : (mw_t C)[t0]? = some (C k, .byte)) (hset : ∀ f : Nat → Int, (mw_w om R C z A).set q0 (R k, .inl (C k, n, .inl (hz_a f))) = mw_w om R C z (lp_U A k f)) {i v : Int} (hi : 0 ≤ i ∧ i < n) (hn : n < 2 ^ 31) (hv : -128 ≤ v ∧ v < 128) (hdg : decode cc pc = .ok (.bastore, 1)) (kk : ∀ (H1 : Heap) (locs1 : List Loc), va_P D vwCl (mw_w om R C z (hz_s A k i v)) H1 → va_D Ad (mw_w om R C z (hz_s A k i v)) → va_S Ad H0 H1 locs1 → W p l e Ro s m args below meth c H1 locs1 cells slots Q (F0 m (pc + 1) ls (rest))) : W p l e Ro s m args below meth c H locs cells slots Q (F0 m pc ls (.int (hz_i v) :: .int (hz_i i) :: .ref (R k) :: rest)) := by
  refine va_bast hexec hb hK hP hD hS q0 t0 ha ht (hz_in hi hn) hdg (fun H1 locs1 h1 h2 h3 => ?_)
  rw [hz_nB hv, hz_a_set (A k) hi hn, hset] at h1 h2
  exact kk H1 locs1 h1 h2 h3
theorem mw_zst (hexec : p.tables.exec = Jvm.exec) (hb : c.code = cc) (hK : va_K D vwCl (mw_t C) s) (hP : va_P D vwCl (mw_w om R C z A) H) (hD : va_D Ad (mw_w om R C z A)) (hS : va_S Ad H0 H locs) (q0 t0 : Nat) {k n : Nat} (ha : (mw_w om R C z A)[q0]? = some (R k, .inl (C k, n, .inl (hz_a (A k))))) (ht : (mw_t C)[t0]? = some (C k, .boolean)) (hset : ∀ f : Nat → Int, (mw_w om R C z A).set q0 (R k, .inl (C k, n, .inl (hz_a f))) = mw_w om R C z (lp_U A k f)) {i v : Int} (hi : 0 ≤ i ∧ i < n) (hn : n < 2 ^ 31) (hv : v = 0 ∨ v = 1) (hdg : decode cc pc = .ok (.bastore, 1)) (kk : ∀ (H1 : Heap) (locs1 : List Loc), va_P D vwCl (mw_w om R C z (hz_s A k i v)) H1 → va_D Ad (mw_w om R C z (hz_s A k i v)) → va_S Ad H0 H1 locs1 → W p l e Ro s m args below meth c H1 locs1 cells slots Q (F0 m (pc + 1) ls (rest))) : W p l e Ro s m args below meth c H locs cells slots Q (F0 m pc ls (.int (hz_i v) :: .int (hz_i i) :: .ref (R k) :: rest)) := by
  refine va_zast hexec hb hK hP hD hS q0 t0 ha ht (hz_in hi hn) hdg (fun H1 locs1 h1 h2 h3 => ?_)
  rw [hz_nZ hv, hz_a_set (A k) hi hn, hset] at h1 h2
  exact kk H1 locs1 h1 h2 h3
theorem mw_lst (hexec : p.tables.exec = Jvm.exec) (hb : c.code = cc) (hK : va_K D vwCl (mw_t C) s) (hP : va_P D vwCl (mw_w om R C z A) H) (hD : va_D Ad (mw_w om R C z A)) (hS : va_S Ad H0 H locs) (q0 t0 : Nat) {k n : Nat} (ha : (mw_w om R C z A)[q0]? = some (R k, .inl (C k, n, .inr (.inl (hz_b (A k)))))) (ht : (mw_t C)[t0]? = some (C k, .long)) (hset : ∀ f : Nat → Int, (mw_w om R C z A).set q0 (R k, .inl (C k, n, .inr (.inl (hz_b f)))) = mw_w om R C z (lp_U A k f)) {i v : Int} (hi : 0 ≤ i ∧ i < n) (hn : n < 2 ^ 31) (hdg : decode cc pc = .ok (.lastore, 1)) (kk : ∀ (H1 : Heap) (locs1 : List Loc), va_P D vwCl (mw_w om R C z (hz_s A k i v)) H1 → va_D Ad (mw_w om R C z (hz_s A k i v)) → va_S Ad H0 H1 locs1 → W p l e Ro s m args below meth c H1 locs1 cells slots Q (F0 m (pc + 1) ls (rest))) : W p l e Ro s m args below meth c H locs cells slots Q (F0 m pc ls (.long (hz_l v) :: .int (hz_i i) :: .ref (R k) :: rest)) := by
  refine va_last hexec hb hK hP hD hS q0 t0 ha ht (hz_in hi hn) hdg (fun H1 locs1 h1 h2 h3 => ?_)
  rw [hz_b_set (A k) hi hn, hset] at h1 h2
  exact kk H1 locs1 h1 h2 h3
theorem mw_Q {Q : State → Prop} {g : JFrame} (k : ∀ QQ : State → Prop, QQ = Q → W p l e Ro s m args below meth c H locs cells slots QQ g) : W p l e Ro s m args below meth c H locs cells slots Q g := k Q rfl
theorem hz_asi {x : Int32} {b : Int} (h : x = hz_i b) (k : W p l e Ro s m args below meth c H locs cells slots Q (F0 m pc ls (.int (hz_i b) :: rest))) : W p l e Ro s m args below meth c H locs cells slots Q (F0 m pc ls (.int x :: rest)) := by subst h; exact k
theorem hz_asl {x : Int64} {b : Int} (h : x = hz_l b) (k : W p l e Ro s m args below meth c H locs cells slots Q (F0 m pc ls (.long (hz_l b) :: rest))) : W p l e Ro s m args below meth c H locs cells slots Q (F0 m pc ls (.long x :: rest)) := by subst h; exact k
theorem mw_free (hD : va_D Ad (mw_w om R C z A)) (hS : va_S Ad H0 H locs) (hA : ∀ q, H0.size ≤ q → Ad q) : ∀ q, va_A (mw_w om R C z A) H.size q → Ad q := va_free (wc := mw_w om R C z A) hD hS hA [0, 1, 2, 3, 4, 5, 6, 7, 8, 9, 10, 11, 12, 13, 14, 15, 16, 17, 18, 19, 20, 21, 22, 23, 24, 25, 26, 27, 28, 29, 30, 31, 32, 33, 34, 35, 36, 37, 38, 39, 40, 41, 42, 43] rfl
end MW

-- 145.j6
set_option maxRecDepth 20000 in
theorem ggX0_lowZeros_J6_numberOfTrailingZeros_0f7a4 : GoodIn wsX0_lowZeros wsJ6_numberOfTrailingZeros_0f7a4 := goodIn_r _ [6, 7] (by decide +kernel) (by decide +kernel)
set_option maxRecDepth 20000 in
theorem gX0_lowZeros_J6_numberOfTrailingZeros_0f7a4 : GoodIn wsX0_lowZeros (va_wsS RX0 66 yJ6_numberOfTrailingZeros_0f7a4 wsJ6_numberOfTrailingZeros_0f7a4) := goodIn_app (goodIn_of _ (by decide +kernel)) ggX0_lowZeros_J6_numberOfTrailingZeros_0f7a4
theorem dJ6_numberOfTrailingZeros_0f7a4_0 : decode cJ6_numberOfTrailingZeros_0f7a4 0 = .ok (.iload_n 0, 1) := by decide +kernel
theorem dJ6_numberOfTrailingZeros_0f7a4_1 : decode cJ6_numberOfTrailingZeros_0f7a4 1 = .ok (.iconst (-1), 1) := by decide +kernel
theorem dJ6_numberOfTrailingZeros_0f7a4_2 : decode cJ6_numberOfTrailingZeros_0f7a4 2 = .ok (.ixor, 1) := by decide +kernel
theorem dJ6_numberOfTrailingZeros_0f7a4_3 : decode cJ6_numberOfTrailingZeros_0f7a4 3 = .ok (.iload_n 0, 1) := by decide +kernel
theorem dJ6_numberOfTrailingZeros_0f7a4_4 : decode cJ6_numberOfTrailingZeros_0f7a4 4 = .ok (.iconst 1, 1) := by decide +kernel
theorem dJ6_numberOfTrailingZeros_0f7a4_5 : decode cJ6_numberOfTrailingZeros_0f7a4 5 = .ok (.isub, 1) := by decide +kernel
theorem dJ6_numberOfTrailingZeros_0f7a4_6 : decode cJ6_numberOfTrailingZeros_0f7a4 6 = .ok (.iand, 1) := by decide +kernel
theorem dJ6_numberOfTrailingZeros_0f7a4_7 : decode cJ6_numberOfTrailingZeros_0f7a4 7 = .ok (.istore_n 0, 1) := by decide +kernel
theorem dJ6_numberOfTrailingZeros_0f7a4_8 : decode cJ6_numberOfTrailingZeros_0f7a4 8 = .ok (.iload_n 0, 1) := by decide +kernel
theorem dJ6_numberOfTrailingZeros_0f7a4_9 : decode cJ6_numberOfTrailingZeros_0f7a4 9 = .ok (.ifCond .gt 8, 3) := by decide +kernel
theorem dJ6_numberOfTrailingZeros_0f7a4_12 : decode cJ6_numberOfTrailingZeros_0f7a4 12 = .ok (.iload_n 0, 1) := by decide +kernel
theorem dJ6_numberOfTrailingZeros_0f7a4_13 : decode cJ6_numberOfTrailingZeros_0f7a4 13 = .ok (.bipush 32, 2) := by decide +kernel
theorem dJ6_numberOfTrailingZeros_0f7a4_15 : decode cJ6_numberOfTrailingZeros_0f7a4 15 = .ok (.iand, 1) := by decide +kernel
theorem dJ6_numberOfTrailingZeros_0f7a4_16 : decode cJ6_numberOfTrailingZeros_0f7a4 16 = .ok (.ireturn, 1) := by decide +kernel
theorem dJ6_numberOfTrailingZeros_0f7a4_17 : decode cJ6_numberOfTrailingZeros_0f7a4 17 = .ok (.iconst 1, 1) := by decide +kernel
theorem dJ6_numberOfTrailingZeros_0f7a4_18 : decode cJ6_numberOfTrailingZeros_0f7a4 18 = .ok (.istore_n 1, 1) := by decide +kernel
theorem dJ6_numberOfTrailingZeros_0f7a4_19 : decode cJ6_numberOfTrailingZeros_0f7a4 19 = .ok (.iload_n 0, 1) := by decide +kernel
theorem dJ6_numberOfTrailingZeros_0f7a4_20 : decode cJ6_numberOfTrailingZeros_0f7a4 20 = .ok (.ldc_w 264, 3) := by decide +kernel
theorem dJ6_numberOfTrailingZeros_0f7a4_23 : decode cJ6_numberOfTrailingZeros_0f7a4 23 = .ok (.if_icmp .le 11, 3) := by decide +kernel
theorem dJ6_numberOfTrailingZeros_0f7a4_26 : decode cJ6_numberOfTrailingZeros_0f7a4 26 = .ok (.iinc 1 16, 3) := by decide +kernel
theorem dJ6_numberOfTrailingZeros_0f7a4_29 : decode cJ6_numberOfTrailingZeros_0f7a4 29 = .ok (.iload_n 0, 1) := by decide +kernel
theorem dJ6_numberOfTrailingZeros_0f7a4_30 : decode cJ6_numberOfTrailingZeros_0f7a4 30 = .ok (.bipush 16, 2) := by decide +kernel
theorem dJ6_numberOfTrailingZeros_0f7a4_32 : decode cJ6_numberOfTrailingZeros_0f7a4 32 = .ok (.iushr, 1) := by decide +kernel
theorem dJ6_numberOfTrailingZeros_0f7a4_33 : decode cJ6_numberOfTrailingZeros_0f7a4 33 = .ok (.istore_n 0, 1) := by decide +kernel
theorem dJ6_numberOfTrailingZeros_0f7a4_34 : decode cJ6_numberOfTrailingZeros_0f7a4 34 = .ok (.iload_n 0, 1) := by decide +kernel
theorem dJ6_numberOfTrailingZeros_0f7a4_35 : decode cJ6_numberOfTrailingZeros_0f7a4 35 = .ok (.sipush 256, 3) := by decide +kernel
theorem dJ6_numberOfTrailingZeros_0f7a4_38 : decode cJ6_numberOfTrailingZeros_0f7a4 38 = .ok (.if_icmp .le 11, 3) := by decide +kernel
theorem dJ6_numberOfTrailingZeros_0f7a4_41 : decode cJ6_numberOfTrailingZeros_0f7a4 41 = .ok (.iinc 1 8, 3) := by decide +kernel
theorem dJ6_numberOfTrailingZeros_0f7a4_44 : decode cJ6_numberOfTrailingZeros_0f7a4 44 = .ok (.iload_n 0, 1) := by decide +kernel
theorem dJ6_numberOfTrailingZeros_0f7a4_45 : decode cJ6_numberOfTrailingZeros_0f7a4 45 = .ok (.bipush 8, 2) := by decide +kernel
theorem dJ6_numberOfTrailingZeros_0f7a4_47 : decode cJ6_numberOfTrailingZeros_0f7a4 47 = .ok (.iushr, 1) := by decide +kernel
theorem dJ6_numberOfTrailingZeros_0f7a4_48 : decode cJ6_numberOfTrailingZeros_0f7a4 48 = .ok (.istore_n 0, 1) := by decide +kernel
theorem dJ6_numberOfTrailingZeros_0f7a4_49 : decode cJ6_numberOfTrailingZeros_0f7a4 49 = .ok (.iload_n 0, 1) := by decide +kernel
theorem dJ6_numberOfTrailingZeros_0f7a4_50 : decode cJ6_numberOfTrailingZeros_0f7a4 50 = .ok (.bipush 16, 2) := by decide +kernel
theorem dJ6_numberOfTrailingZeros_0f7a4_52 : decode cJ6_numberOfTrailingZeros_0f7a4 52 = .ok (.if_icmp .le 10, 3) := by decide +kernel
theorem dJ6_numberOfTrailingZeros_0f7a4_55 : decode cJ6_numberOfTrailingZeros_0f7a4 55 = .ok (.iinc 1 4, 3) := by decide +kernel
theorem dJ6_numberOfTrailingZeros_0f7a4_58 : decode cJ6_numberOfTrailingZeros_0f7a4 58 = .ok (.iload_n 0, 1) := by decide +kernel
theorem dJ6_numberOfTrailingZeros_0f7a4_59 : decode cJ6_numberOfTrailingZeros_0f7a4 59 = .ok (.iconst 4, 1) := by decide +kernel
theorem dJ6_numberOfTrailingZeros_0f7a4_60 : decode cJ6_numberOfTrailingZeros_0f7a4 60 = .ok (.iushr, 1) := by decide +kernel
theorem dJ6_numberOfTrailingZeros_0f7a4_61 : decode cJ6_numberOfTrailingZeros_0f7a4 61 = .ok (.istore_n 0, 1) := by decide +kernel
theorem dJ6_numberOfTrailingZeros_0f7a4_62 : decode cJ6_numberOfTrailingZeros_0f7a4 62 = .ok (.iload_n 0, 1) := by decide +kernel
theorem dJ6_numberOfTrailingZeros_0f7a4_63 : decode cJ6_numberOfTrailingZeros_0f7a4 63 = .ok (.iconst 4, 1) := by decide +kernel
theorem dJ6_numberOfTrailingZeros_0f7a4_64 : decode cJ6_numberOfTrailingZeros_0f7a4 64 = .ok (.if_icmp .le 10, 3) := by decide +kernel
theorem dJ6_numberOfTrailingZeros_0f7a4_67 : decode cJ6_numberOfTrailingZeros_0f7a4 67 = .ok (.iinc 1 2, 3) := by decide +kernel
theorem dJ6_numberOfTrailingZeros_0f7a4_70 : decode cJ6_numberOfTrailingZeros_0f7a4 70 = .ok (.iload_n 0, 1) := by decide +kernel
theorem dJ6_numberOfTrailingZeros_0f7a4_71 : decode cJ6_numberOfTrailingZeros_0f7a4 71 = .ok (.iconst 2, 1) := by decide +kernel
theorem dJ6_numberOfTrailingZeros_0f7a4_72 : decode cJ6_numberOfTrailingZeros_0f7a4 72 = .ok (.iushr, 1) := by decide +kernel
theorem dJ6_numberOfTrailingZeros_0f7a4_73 : decode cJ6_numberOfTrailingZeros_0f7a4 73 = .ok (.istore_n 0, 1) := by decide +kernel
theorem dJ6_numberOfTrailingZeros_0f7a4_74 : decode cJ6_numberOfTrailingZeros_0f7a4 74 = .ok (.iload_n 1, 1) := by decide +kernel
theorem dJ6_numberOfTrailingZeros_0f7a4_75 : decode cJ6_numberOfTrailingZeros_0f7a4 75 = .ok (.iload_n 0, 1) := by decide +kernel
theorem dJ6_numberOfTrailingZeros_0f7a4_76 : decode cJ6_numberOfTrailingZeros_0f7a4 76 = .ok (.iconst 1, 1) := by decide +kernel
theorem dJ6_numberOfTrailingZeros_0f7a4_77 : decode cJ6_numberOfTrailingZeros_0f7a4 77 = .ok (.iushr, 1) := by decide +kernel
theorem dJ6_numberOfTrailingZeros_0f7a4_78 : decode cJ6_numberOfTrailingZeros_0f7a4 78 = .ok (.iadd, 1) := by decide +kernel
theorem dJ6_numberOfTrailingZeros_0f7a4_79 : decode cJ6_numberOfTrailingZeros_0f7a4 79 = .ok (.ireturn, 1) := by decide +kernel
