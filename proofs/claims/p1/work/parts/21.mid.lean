set_option maxHeartbeats 1000000 in
set_option maxRecDepth 100000 in
/-- Way() -/
theorem c_X9_init (l : Launch) (D : va_G) (h0 sz : Nat) : Met l yX9_init wsX9_init ({ frames := 1, cells := 3, slots := 90, locals := 12 }) (va_Pc [.ref h0] (hm_P D [(h0, .inr (9, [.null, .null, .null]))] [] sz)) (va_Qv (fun _ : Unit => True) (fun _ t => ∃ (q1 : Nat) (q3 : Nat) (q5 : Nat), hm_B D (va_A [(h0, .inr (9, [.null, .null, .null]))] sz) [(h0, .inr (9, [.ref q1, .ref q3, .ref q5]))] [] t) (va_A [(h0, .inr (9, [.null, .null, .null]))] sz)) 3 90 (va_A [(h0, .inr (9, [.null, .null, .null]))] sz) := by
  refine Met.ofW (cc := cX9_init) (maxL := 2) (ret := none) (by decide) rfl ?_
  intro p e s m args below meth c s₁ B hml hv
  obtain ⟨rfl, hsz, hP, hK, hD0, hE⟩ := hv
  have hx := B.exec
  have hb := B.bytes
  have hr := B.returns
  have hts := atoms_spec (ws := wsX9_init) B.pre
  have hown : s.vm.findClass RX9 = some m.cls := findClass_of_methodNamed B.named
  have hlocks := B.notSynchronized
  have hin : meth.name = "<init>" := (name_of_methodNamed B.named B.method).1
  subst hsz
  have hD := hD0.self (sz := s.heap.size)
  generalize hAe : va_A [(h0, .inr (9, [.null, .null, .null]))] s.heap.size = A at hD ⊢
  have hA : ∀ q : Nat, s.heap.size ≤ q → A q := fun q h => by rw [← hAe]; exact Or.inr h
  have hS : va_S A s.heap s.heap [] := va_S.rf
  have hP : va_P D vwCl [(h0, .inr (9, [.null, .null, .null]))] s.heap := hP
  have hl := lv_entry ([.ref h0]) (n := 2) (Nat.le_of_ble_eq_true rfl)
  rw [lg_entry_eq]
  generalize (lg_sl ([.ref h0]) ++ List.replicate (2 - (lg_sl ([.ref h0])).length) Slot.unset).toArray = ls at hl ⊢
  have hl : lv_has ls 2 [(0, .ref h0)] := hl
  refine lv_aload_n hx hb dX9_init_0 rfl (lv_at hl 0 rfl) ?_
  refine W.objInit hx hb hown (hts (.methodLink RX9 3 objectInit) (by decide +kernel)) (hts (.instanceMethod objectInit) (by decide +kernel)) (hts _ (List.mem_of_getElem? (i := 3) rfl)) rfl (by rw [hml]; exact hl.1) rfl dX9_init_1 (Nat.le_of_ble_eq_true rfl) (Nat.le_of_ble_eq_true rfl) ?_
  refine W.eq (g2 := F0 m 4 ls []) rfl ?_
  refine lv_aload_n hx hb dX9_init_4 rfl (lv_at hl 0 rfl) ?_
  refine lv_bipush (v := (40)) hx hb dX9_init_5 (by decide) ?_
  refine va_newa (atype := .int) (ty := .int) (N' := 40) (a0 := (40, .inl (fun _ => 0))) hx hb (hts (.arrayClass .int) (by decide +kernel)) rfl hK hP hD hS hA (fun cA => vp_cell_i cA 40 (fun _ => 0)) (by decide) (by decide) (by decide) (Nat.le_of_ble_eq_true rfl) (Nat.le_of_ble_eq_true rfl) dX9_init_7 (fun q1 cA2 H hK hP hD hS => ?_)
  have hP : va_P D vwCl [(h0, .inr (9, [.null, .null, .null])), (q1, .inl (cA2, 40, .inl (fun _ => 0)))] H := hP
  have hD : va_D A [(h0, .inr (9, [.null, .null, .null])), (q1, .inl (cA2, 40, .inl (fun _ => 0)))] := hD
  have hK : va_K D vwCl [(cA2, .int)] s := hK
  refine W.widen (k := 1) (n := 40) (by omega) (by omega) ?_
  refine va_putF (D := D) (ci := 9) (v := .ref q1) (ty := .array .int) (C := RX9) (T := TX9) (N := 3) hx hb hts (by decide +kernel) tyX9 tyX9_ok nmX9 hown hK hP hD hS 0 rfl rfl 0 (by decide) (hts (.fieldLink RX9 9 "HiddenMoves$Way" "tops" "[I") (by decide +kernel)) (fun _ h9 => h9) rfl hin rfl (by decide +kernel) rfl rfl (Nat.le_of_ble_eq_true rfl) dX9_init_9 (fun H locs hP hD hS => ?_)
  have hP : va_P D vwCl [(h0, .inr (9, [.ref q1, .null, .null])), (q1, .inl (cA2, 40, .inl (fun _ => 0)))] H := hP
  have hD : va_D A [(h0, .inr (9, [.ref q1, .null, .null])), (q1, .inl (cA2, 40, .inl (fun _ => 0)))] := hD
  refine lv_aload_n hx hb dX9_init_12 rfl (lv_at hl 0 rfl) ?_
  refine lv_bipush (v := (40)) hx hb dX9_init_13 (by decide) ?_
  refine va_newa (atype := .int) (ty := .int) (N' := 40) (a0 := (40, .inl (fun _ => 0))) hx hb (hts (.arrayClass .int) (by decide +kernel)) rfl hK hP hD hS hA (fun cA => vp_cell_i cA 40 (fun _ => 0)) (by decide) (by decide) (by decide) (Nat.le_of_ble_eq_true rfl) (Nat.le_of_ble_eq_true rfl) dX9_init_15 (fun q3 cA4 H hK hP hD hS => ?_)
  have hP : va_P D vwCl [(h0, .inr (9, [.ref q1, .null, .null])), (q1, .inl (cA2, 40, .inl (fun _ => 0))), (q3, .inl (cA4, 40, .inl (fun _ => 0)))] H := hP
  have hD : va_D A [(h0, .inr (9, [.ref q1, .null, .null])), (q1, .inl (cA2, 40, .inl (fun _ => 0))), (q3, .inl (cA4, 40, .inl (fun _ => 0)))] := hD
  have hK : va_K D vwCl [(cA2, .int), (cA4, .int)] s := hK
  refine W.widen (k := 2) (n := 80) (by omega) (by omega) ?_
  refine va_putF (D := D) (ci := 9) (v := .ref q3) (ty := .array .int) (C := RX9) (T := TX9) (N := 3) hx hb hts (by decide +kernel) tyX9 tyX9_ok nmX9 hown hK hP hD hS 0 rfl rfl 1 (by decide) (hts (.fieldLink RX9 15 "HiddenMoves$Way" "bottoms" "[I") (by decide +kernel)) (fun _ h9 => h9) rfl hin rfl (by decide +kernel) rfl rfl (Nat.le_of_ble_eq_true rfl) dX9_init_17 (fun H locs hP hD hS => ?_)
  have hP : va_P D vwCl [(h0, .inr (9, [.ref q1, .ref q3, .null])), (q1, .inl (cA2, 40, .inl (fun _ => 0))), (q3, .inl (cA4, 40, .inl (fun _ => 0)))] H := hP
  have hD : va_D A [(h0, .inr (9, [.ref q1, .ref q3, .null])), (q1, .inl (cA2, 40, .inl (fun _ => 0))), (q3, .inl (cA4, 40, .inl (fun _ => 0)))] := hD
  refine lv_aload_n hx hb dX9_init_20 rfl (lv_at hl 0 rfl) ?_
  refine lv_bipush (v := (10)) hx hb dX9_init_21 (by decide) ?_
  refine va_newa (atype := .int) (ty := .int) (N' := 10) (a0 := (10, .inl (fun _ => 0))) hx hb (hts (.arrayClass .int) (by decide +kernel)) rfl hK hP hD hS hA (fun cA => vp_cell_i cA 10 (fun _ => 0)) (by decide) (by decide) (by decide) (Nat.le_of_ble_eq_true rfl) (Nat.le_of_ble_eq_true rfl) dX9_init_23 (fun q5 cA6 H hK hP hD hS => ?_)
  have hP : va_P D vwCl [(h0, .inr (9, [.ref q1, .ref q3, .null])), (q1, .inl (cA2, 40, .inl (fun _ => 0))), (q3, .inl (cA4, 40, .inl (fun _ => 0))), (q5, .inl (cA6, 10, .inl (fun _ => 0)))] H := hP
  have hD : va_D A [(h0, .inr (9, [.ref q1, .ref q3, .null])), (q1, .inl (cA2, 40, .inl (fun _ => 0))), (q3, .inl (cA4, 40, .inl (fun _ => 0))), (q5, .inl (cA6, 10, .inl (fun _ => 0)))] := hD
  have hK : va_K D vwCl [(cA2, .int), (cA4, .int), (cA6, .int)] s := hK
  refine W.widen (k := 3) (n := 90) (by omega) (by omega) ?_
  refine va_putF (D := D) (ci := 9) (v := .ref q5) (ty := .array .int) (C := RX9) (T := TX9) (N := 3) hx hb hts (by decide +kernel) tyX9 tyX9_ok nmX9 hown hK hP hD hS 0 rfl rfl 2 (by decide) (hts (.fieldLink RX9 18 "HiddenMoves$Way" "taken" "[I") (by decide +kernel)) (fun _ h9 => h9) rfl hin rfl (by decide +kernel) rfl rfl (Nat.le_of_ble_eq_true rfl) dX9_init_25 (fun H locs hP hD hS => ?_)
  have hP : va_P D vwCl [(h0, .inr (9, [.ref q1, .ref q3, .ref q5])), (q1, .inl (cA2, 40, .inl (fun _ => 0))), (q3, .inl (cA4, 40, .inl (fun _ => 0))), (q5, .inl (cA6, 10, .inl (fun _ => 0)))] H := hP
  have hD : va_D A [(h0, .inr (9, [.ref q1, .ref q3, .ref q5])), (q1, .inl (cA2, 40, .inl (fun _ => 0))), (q3, .inl (cA4, 40, .inl (fun _ => 0))), (q5, .inl (cA6, 10, .inl (fun _ => 0)))] := hD
  refine lv_iconst (v := 0) hx hb dX9_init_28 (by decide) ?_
  refine lv_istore_n (lv' := [(1, .int 0), (0, .ref h0)]) hx hb dX9_init_29 rfl hl (by decide) rfl (fun ls hl => ?_)
  refine hm_loop (σ := (Nat → Int32)) 40 (fun i x H locs ls => match x with | fb => va_P D vwCl [(h0, .inr (9, [.ref q1, .ref q3, .ref q5])), (q1, .inl (cA2, 40, .inl (fun _ => 0))), (q3, .inl (cA4, 40, .inl fb)), (q5, .inl (cA6, 10, .inl (fun _ => 0)))] H ∧ va_D A [(h0, .inr (9, [.ref q1, .ref q3, .ref q5])), (q1, .inl (cA2, 40, .inl (fun _ => 0))), (q3, .inl (cA4, 40, .inl fb)), (q5, .inl (cA6, 10, .inl (fun _ => 0)))] ∧ va_S A s.heap H locs ∧ lv_has ls 2 [(1, .int (nI i)), (0, .ref h0)]) (fun i => 3 + 0 * i) (fun i => 90 + 0 * i) 30 ?_ ?_ ((fun _ => 0)) ⟨hP, hD, hS, hl⟩
  · intro x H locs ls hI
    obtain ⟨fb, rfl⟩ : ∃ z, z = x := ⟨_, rfl⟩
    obtain ⟨hP, hD, hS, hl⟩ := hI
    have hP : va_P D vwCl [(h0, .inr (9, [.ref q1, .ref q3, .ref q5])), (q1, .inl (cA2, 40, .inl (fun _ => 0))), (q3, .inl (cA4, 40, .inl fb)), (q5, .inl (cA6, 10, .inl (fun _ => 0)))] H := hP
    have hD : va_D A [(h0, .inr (9, [.ref q1, .ref q3, .ref q5])), (q1, .inl (cA2, 40, .inl (fun _ => 0))), (q3, .inl (cA4, 40, .inl fb)), (q5, .inl (cA6, 10, .inl (fun _ => 0)))] := hD
    have hl : lv_has ls 2 [(1, .int 40), (0, .ref h0)] := hl
    refine W.widen (k := 3) (n := 90) (Nat.le_refl _) (Nat.le_refl _) ?_
    refine lv_iload_n hx hb dX9_init_30 rfl (lv_at hl 0 rfl) ?_
    refine lv_bipush (v := (40)) hx hb dX9_init_31 (by decide) ?_
    refine lv_icmp_ge (tgt := 49) hx hb dX9_init_33 (by decide) (fun _ => ?_) (fun c9 => absurd (by decide) c9)
    have hP9 := hP.sub (ws' := [(h0, .inr (9, [.ref q1, .ref q3, .ref q5]))]) [0] rfl
    have hD9 := hD.sub (ws' := [(h0, .inr (9, [.ref q1, .ref q3, .ref q5]))]) [0] (by decide) rfl
    have hK9 := hK.sub (tys' := []) [] rfl
    refine W.widen (k := 3) (n := 90) (by omega) (by omega) ?_
    exact W.vret hx hb hr (fun t ht hW => ⟨⟨(), rfl, trivial, q1, q3, q5, by rw [ht]; exact hP9, va_K.moved hW.alike hK9, hD9⟩, hS.F ht⟩) hS.2.2 dX9_init_49
  · intro i x H locs ls hi hI ih
    obtain ⟨fb, rfl⟩ : ∃ z, z = x := ⟨_, rfl⟩
    obtain ⟨hP, hD, hS, hl⟩ := hI
    have hP : va_P D vwCl [(h0, .inr (9, [.ref q1, .ref q3, .ref q5])), (q1, .inl (cA2, 40, .inl (fun _ => 0))), (q3, .inl (cA4, 40, .inl fb)), (q5, .inl (cA6, 10, .inl (fun _ => 0)))] H := hP
    have hD : va_D A [(h0, .inr (9, [.ref q1, .ref q3, .ref q5])), (q1, .inl (cA2, 40, .inl (fun _ => 0))), (q3, .inl (cA4, 40, .inl fb)), (q5, .inl (cA6, 10, .inl (fun _ => 0)))] := hD
    have hl : lv_has ls 2 [(1, .int (nI i)), (0, .ref h0)] := hl
    refine W.widen (k := 3 + 0 * i) (n := 90 + 0 * i) (Nat.le_refl _) (Nat.le_refl _) ?_
    refine lv_iload_n hx hb dX9_init_30 rfl (lv_at hl 0 rfl) ?_
    refine lv_bipush (v := (40)) hx hb dX9_init_31 (by decide) ?_
    refine lv_icmp_ge (tgt := 49) hx hb dX9_init_33 (by decide) (fun c9 => absurd c9 (nI_ge (b := 40) hi (by decide))) (fun _ => ?_)
    refine lv_aload_n hx hb dX9_init_36 rfl (lv_at hl 1 rfl) ?_
    refine va_get (D := D) (ci := 9) (v := .ref q3) (C := RX9) (T := TX9) (N := 3) hx hb hts (by decide +kernel) hown hK hP 0 rfl rfl 1 (by decide) (hts (.fieldLink RX9 15 "HiddenMoves$Way" "bottoms" "[I") (by decide +kernel)) (fun _ h9 => h9) rfl dX9_init_37 ?_
    refine lv_iload_n hx hb dX9_init_40 rfl (lv_at hl 0 rfl) ?_
    refine lv_iconst (v := 1) hx hb dX9_init_41 (by decide) ?_
    refine va_iast hx hb hK hP hD hS 2 1 rfl rfl (vp_in_nI hi (by omega)) dX9_init_42 (fun H locs hP hD hS => ?_)
    have hP : va_P D vwCl [(h0, .inr (9, [.ref q1, .ref q3, .ref q5])), (q1, .inl (cA2, 40, .inl (fun _ => 0))), (q3, .inl (cA4, 40, .inl (upd fb (nI i).toNatClampNeg 1))), (q5, .inl (cA6, 10, .inl (fun _ => 0)))] H := hP
    have hD : va_D A [(h0, .inr (9, [.ref q1, .ref q3, .ref q5])), (q1, .inl (cA2, 40, .inl (fun _ => 0))), (q3, .inl (cA4, 40, .inl (upd fb (nI i).toNatClampNeg 1))), (q5, .inl (cA6, 10, .inl (fun _ => 0)))] := hD
    refine lv_iinc (v := nI (i + 1)) (lv' := [(1, .int (nI (i + 1))), (0, .ref h0)]) hx hb dX9_init_43 hl (k := 0) rfl (nI_1 i) (by decide) rfl (fun ls hl => ?_)
    refine lv_goto (tgt := 30) hx hb dX9_init_46 (by decide) ?_
    have hP := hP.sub (ws' := [(h0, .inr (9, [.ref q1, .ref q3, .ref q5])), (q1, .inl (cA2, 40, .inl (fun _ => 0))), (q3, .inl (cA4, 40, .inl (upd fb (nI i).toNatClampNeg 1))), (q5, .inl (cA6, 10, .inl (fun _ => 0)))]) [0, 1, 2, 3] rfl
    have hD := hD.sub (ws' := [(h0, .inr (9, [.ref q1, .ref q3, .ref q5])), (q1, .inl (cA2, 40, .inl (fun _ => 0))), (q3, .inl (cA4, 40, .inl (upd fb (nI i).toNatClampNeg 1))), (q5, .inl (cA6, 10, .inl (fun _ => 0)))]) [0, 1, 2, 3] (by decide) rfl
    refine W.widen (k := 3 + 0 * (i + 1)) (n := 90 + 0 * (i + 1)) (by omega) (by omega) ?_
    exact ih ((upd fb (nI i).toNatClampNeg 1)) _ _ _ ⟨hP, hD, hS, lv_sub hl [0, 1] rfl⟩

set_option maxHeartbeats 1000000 in
set_option maxRecDepth 100000 in
/-- Mix() -/
theorem c_X3_init (l : Launch) (D : va_G) (h0 sz : Nat) : Met l yX3_init wsX3_init ({ frames := 2, cells := 43, slots := 755, locals := 33 }) (va_Pc [.ref h0] (hm_P D [(h0, .inr (3, [.null, .null]))] [] sz)) (va_Qv (fun _ : Unit => True) (fun _ t => ∃ (q1 : Nat) (q3 : Nat), hm_B D (va_A [(h0, .inr (3, [.null, .null]))] sz) [(h0, .inr (3, [.ref q1, .ref q3]))] [] t) (va_A [(h0, .inr (3, [.null, .null]))] sz)) 43 755 (va_A [(h0, .inr (3, [.null, .null]))] sz) := by
  refine Met.ofW (cc := cX3_init) (maxL := 2) (ret := none) (by decide) rfl ?_
  intro p e s m args below meth c s₁ B hml hv
  obtain ⟨rfl, hsz, hP, hK, hD0, hE⟩ := hv
  have hx := B.exec
  have hb := B.bytes
  have hr := B.returns
  have hts := atoms_spec (ws := wsX3_init) B.pre
  have hown : s.vm.findClass RX3 = some m.cls := findClass_of_methodNamed B.named
  have hlocks := B.notSynchronized
  have hin : meth.name = "<init>" := (name_of_methodNamed B.named B.method).1
  subst hsz
  have hD := hD0.self (sz := s.heap.size)
  generalize hAe : va_A [(h0, .inr (3, [.null, .null]))] s.heap.size = A at hD ⊢
  have hA : ∀ q : Nat, s.heap.size ≤ q → A q := fun q h => by rw [← hAe]; exact Or.inr h
  have hS : va_S A s.heap s.heap [] := va_S.rf
  have hP : va_P D vwCl [(h0, .inr (3, [.null, .null]))] s.heap := hP
  have hl := lv_entry ([.ref h0]) (n := 2) (Nat.le_of_ble_eq_true rfl)
  rw [lg_entry_eq]
  generalize (lg_sl ([.ref h0]) ++ List.replicate (2 - (lg_sl ([.ref h0])).length) Slot.unset).toArray = ls at hl ⊢
  have hl : lv_has ls 2 [(0, .ref h0)] := hl
  refine lv_aload_n hx hb dX3_init_0 rfl (lv_at hl 0 rfl) ?_
  refine W.objInit hx hb hown (hts (.methodLink RX3 3 objectInit) (by decide +kernel)) (hts (.instanceMethod objectInit) (by decide +kernel)) (hts _ (List.mem_of_getElem? (i := 3) rfl)) rfl (by rw [hml]; exact hl.1) rfl dX3_init_1 (Nat.le_of_ble_eq_true rfl) (Nat.le_of_ble_eq_true rfl) ?_
  refine W.eq (g2 := F0 m 4 ls []) rfl ?_
  refine lv_aload_n hx hb dX3_init_4 rfl (lv_at hl 0 rfl) ?_
  refine lv_bipush (v := (20)) hx hb dX3_init_5 (by decide) ?_
  refine va_newq (N' := 20) hx hb hown (hts (.classLink RX3 9 RX0) (by decide +kernel)) hE.ao_RX0 hK hP hD hS hA (by decide) (by decide) (by decide) (Nat.le_of_ble_eq_true rfl) (Nat.le_of_ble_eq_true rfl) dX3_init_7 (fun q1 cA2 H hK hP hD hS => ?_)
  have hP : va_P D vwCl [(h0, .inr (3, [.null, .null])), (q1, .inl (cA2, 20, .inr (.inr (.inr (.inr (fun _ => none))))))] H := hP
  have hD : va_D A [(h0, .inr (3, [.null, .null])), (q1, .inl (cA2, 20, .inr (.inr (.inr (.inr (fun _ => none))))))] := hD
  have hK : va_K D vwCl [(cA2, .object RX0)] s := hK
  refine W.widen (k := 1) (n := 20) (by omega) (by omega) ?_
  refine va_putF (D := D) (ci := 3) (v := .ref q1) (ty := .array (.object "HiddenMoves$Big")) (C := RX3) (T := TX3) (N := 2) hx hb hts (by decide +kernel) tyX3 tyX3_ok nmX3 hown hK hP hD hS 0 rfl rfl 0 (by decide) (hts (.fieldLink RX3 11 "HiddenMoves$Mix" "parts" "[LHiddenMoves$Big;") (by decide +kernel)) (fun _ h9 => h9) rfl hin rfl (by decide +kernel) rfl rfl (Nat.le_of_ble_eq_true rfl) dX3_init_10 (fun H locs hP hD hS => ?_)
  have hP : va_P D vwCl [(h0, .inr (3, [.ref q1, .null])), (q1, .inl (cA2, 20, .inr (.inr (.inr (.inr (fun _ => none))))))] H := hP
  have hD : va_D A [(h0, .inr (3, [.ref q1, .null])), (q1, .inl (cA2, 20, .inr (.inr (.inr (.inr (fun _ => none))))))] := hD
  refine lv_aload_n hx hb dX3_init_13 rfl (lv_at hl 0 rfl) ?_
  refine va_new (ci := 0) (fs := [.null, .int 0, .int 0]) (C := RX0) (T := TX0) (N := 3) hx hb hts (by decide +kernel) tyX0 tyX0_ok hown (hts (.classLink RX3 9 RX0) (by decide +kernel)) (hts (.instantiable RX0 3) (by decide +kernel)) (hts (.initialized RX0) (by decide +kernel)) hK hP hD hS hA rfl (fun j hj => by rcases (show j = 0 ∨ j = 1 ∨ j = 2 by omega) with rfl | rfl | rfl <;> rfl) (Nat.le_of_ble_eq_true rfl) (Nat.le_of_ble_eq_true rfl) dX3_init_14 (fun q3 H hP hD hS => ?_)
  have hP : va_P D vwCl [(h0, .inr (3, [.ref q1, .null])), (q1, .inl (cA2, 20, .inr (.inr (.inr (.inr (fun _ => none)))))), (q3, .inr (0, [.null, .int 0, .int 0]))] H := hP
  have hD : va_D A [(h0, .inr (3, [.ref q1, .null])), (q1, .inl (cA2, 20, .inr (.inr (.inr (.inr (fun _ => none)))))), (q3, .inr (0, [.null, .int 0, .int 0]))] := hD
  refine W.widen (k := 2) (n := 23) (by omega) (by omega) ?_
  refine lv_dup hx hb dX3_init_17 rfl ?_
  refine lv_bipush (v := (32)) hx hb dX3_init_18 (by decide) ?_
  have hPc := hP.sub (ws' := [(q3, .inr (0, [.null, .int 0, .int 0]))]) [2] rfl
  have hDc := hD.sub (ws' := [(q3, .inr (0, [.null, .int 0, .int 0]))]) [2] (by decide) rfl
  have hKc := hK.sub (tys' := []) [] rfl
  have hFc := va_free (wc := [(q3, .inr (0, [.null, .int 0, .int 0]))]) hD hS hA [2] rfl
  refine va_callv (va_runI (As := [.int 32]) (rest := [.ref q3, .ref h0]) ⟨hx, hb, hml, hown, hts⟩ (c_X0_init_32 l D q3 _) (cwI 1 hts gX3_init_X0_init rfl rfl rfl (hts (.initialized RX0) (by decide +kernel)) (hts (.methodLink RX3 17 yX0_init) (by decide +kernel)) (hts (.instanceMethod yX0_init) (by decide +kernel)) rfl (by decide +kernel) ⟨Nat.le_of_ble_eq_true rfl, Nat.le_of_ble_eq_true rfl⟩) ⟨hm_blind, hm_pre hPc hKc hDc hE⟩ rfl rfl hl.1 rfl (lv_room (Nat.le_of_ble_eq_true rfl)) dX3_init_20 ⟨(Nat.le_of_ble_eq_true rfl), (Nat.le_of_ble_eq_true rfl)⟩) hS (fun q _ h => hFc q h) hFc (fun u t H1 locs ht hvm hw hB hz1 hk1 hS => ?_)
  obtain ⟨q4, cA5, hP1, hK1, hD1⟩ := hB
  rw [ht] at hP1
  have hK1 := va_K.moved hvm.symm hK1
  obtain ⟨hP, hD⟩ := va_join (wr := [(h0, .inr (3, [.ref q1, .null])), (q1, .inl (cA2, 20, .inr (.inr (.inr (.inr (fun _ => none))))))]) (w1 := [(q3, .inr (0, [.ref q4, .int 0, .int 0])), (q4, .inl (cA5, 32, .inl (fun _ => 0)))]) hP hD [2] [0, 1] rfl rfl (by decide) (by decide) hk1 hFc hP1 hD1
  have hK := (hK.sub (tys' := [(cA2, .object RX0)]) [0] rfl).app hK1
  generalize H1 = H at hP hS ⊢
  have hP : va_P D vwCl [(h0, .inr (3, [.ref q1, .null])), (q1, .inl (cA2, 20, .inr (.inr (.inr (.inr (fun _ => none)))))), (q3, .inr (0, [.ref q4, .int 0, .int 0])), (q4, .inl (cA5, 32, .inl (fun _ => 0)))] H := hP
  have hD : va_D A [(h0, .inr (3, [.ref q1, .null])), (q1, .inl (cA2, 20, .inr (.inr (.inr (.inr (fun _ => none)))))), (q3, .inr (0, [.ref q4, .int 0, .int 0])), (q4, .inl (cA5, 32, .inl (fun _ => 0)))] := hD
  have hK : va_K D vwCl [(cA2, .object RX0), (cA5, .int)] s := hK
  refine W.widen (k := 3) (n := 55) (by omega) (by omega) ?_
  refine va_putF (D := D) (ci := 3) (v := .ref q3) (ty := .object "HiddenMoves$Big") (C := RX3) (T := TX3) (N := 2) hx hb hts (by decide +kernel) tyX3 tyX3_ok nmX3 hown hK hP hD hS 0 rfl rfl 1 (by decide) (hts (.fieldLink RX3 20 "HiddenMoves$Mix" "sum" "LHiddenMoves$Big;") (by decide +kernel)) (fun _ h9 => h9) rfl hin rfl (by decide +kernel) rfl rfl (Nat.le_of_ble_eq_true rfl) dX3_init_23 (fun H locs hP hD hS => ?_)
  have hP : va_P D vwCl [(h0, .inr (3, [.ref q1, .ref q3])), (q1, .inl (cA2, 20, .inr (.inr (.inr (.inr (fun _ => none)))))), (q3, .inr (0, [.ref q4, .int 0, .int 0])), (q4, .inl (cA5, 32, .inl (fun _ => 0)))] H := hP
  have hD : va_D A [(h0, .inr (3, [.ref q1, .ref q3])), (q1, .inl (cA2, 20, .inr (.inr (.inr (.inr (fun _ => none)))))), (q3, .inr (0, [.ref q4, .int 0, .int 0])), (q4, .inl (cA5, 32, .inl (fun _ => 0)))] := hD
  have hP := hP.sub (ws' := [(h0, .inr (3, [.ref q1, .ref q3])), (q1, .inl (cA2, 20, .inr (.inr (.inr (.inr (fun _ => none))))))]) [0, 1] rfl
  have hD := hD.sub (ws' := [(h0, .inr (3, [.ref q1, .ref q3])), (q1, .inl (cA2, 20, .inr (.inr (.inr (.inr (fun _ => none))))))]) [0, 1] (by decide) rfl
  have hK := hK.sub (tys' := [(cA2, .object RX0)]) [0] rfl
  refine lv_iconst (v := 0) hx hb dX3_init_26 (by decide) ?_
  refine lv_istore_n (lv' := [(1, .int 0), (0, .ref h0)]) hx hb dX3_init_27 rfl hl (by decide) rfl (fun ls hl => ?_)
  refine hm_loop (σ := (Nat → Option Nat)) 20 (fun i x H locs ls => match x with | fp => va_P D vwCl [(h0, .inr (3, [.ref q1, .ref q3])), (q1, .inl (cA2, 20, .inr (.inr (.inr (.inr fp)))))] H ∧ va_D A [(h0, .inr (3, [.ref q1, .ref q3])), (q1, .inl (cA2, 20, .inr (.inr (.inr (.inr fp)))))] ∧ va_S A s.heap H locs ∧ lv_has ls 2 [(1, .int (nI i)), (0, .ref h0)]) (fun i => 3 + 2 * i) (fun i => 55 + 35 * i) 28 ?_ ?_ ((fun _ => none)) ⟨hP, hD, hS, hl⟩
  · intro x H locs ls hI
    obtain ⟨fp, rfl⟩ : ∃ z, z = x := ⟨_, rfl⟩
    obtain ⟨hP, hD, hS, hl⟩ := hI
    have hP : va_P D vwCl [(h0, .inr (3, [.ref q1, .ref q3])), (q1, .inl (cA2, 20, .inr (.inr (.inr (.inr fp)))))] H := hP
    have hD : va_D A [(h0, .inr (3, [.ref q1, .ref q3])), (q1, .inl (cA2, 20, .inr (.inr (.inr (.inr fp)))))] := hD
    have hl : lv_has ls 2 [(1, .int 20), (0, .ref h0)] := hl
    refine W.widen (k := 43) (n := 755) (Nat.le_refl _) (Nat.le_refl _) ?_
    refine lv_iload_n hx hb dX3_init_28 rfl (lv_at hl 0 rfl) ?_
    refine lv_bipush (v := (20)) hx hb dX3_init_29 (by decide) ?_
    refine lv_icmp_ge (tgt := 55) hx hb dX3_init_31 (by decide) (fun _ => ?_) (fun c9 => absurd (by decide) c9)
    have hP9 := hP.sub (ws' := [(h0, .inr (3, [.ref q1, .ref q3]))]) [0] rfl
    have hD9 := hD.sub (ws' := [(h0, .inr (3, [.ref q1, .ref q3]))]) [0] (by decide) rfl
    have hK9 := hK.sub (tys' := []) [] rfl
    refine W.widen (k := 43) (n := 755) (by omega) (by omega) ?_
    exact W.vret hx hb hr (fun t ht hW => ⟨⟨(), rfl, trivial, q1, q3, by rw [ht]; exact hP9, va_K.moved hW.alike hK9, hD9⟩, hS.F ht⟩) hS.2.2 dX3_init_55
  · intro i x H locs ls hi hI ih
    obtain ⟨fp, rfl⟩ : ∃ z, z = x := ⟨_, rfl⟩
    obtain ⟨hP, hD, hS, hl⟩ := hI
    have hP : va_P D vwCl [(h0, .inr (3, [.ref q1, .ref q3])), (q1, .inl (cA2, 20, .inr (.inr (.inr (.inr fp)))))] H := hP
    have hD : va_D A [(h0, .inr (3, [.ref q1, .ref q3])), (q1, .inl (cA2, 20, .inr (.inr (.inr (.inr fp)))))] := hD
    have hl : lv_has ls 2 [(1, .int (nI i)), (0, .ref h0)] := hl
    refine W.widen (k := 3 + 2 * i) (n := 55 + 35 * i) (Nat.le_refl _) (Nat.le_refl _) ?_
    refine lv_iload_n hx hb dX3_init_28 rfl (lv_at hl 0 rfl) ?_
    refine lv_bipush (v := (20)) hx hb dX3_init_29 (by decide) ?_
    refine lv_icmp_ge (tgt := 55) hx hb dX3_init_31 (by decide) (fun c9 => absurd c9 (nI_ge (b := 20) hi (by decide))) (fun _ => ?_)
    refine lv_aload_n hx hb dX3_init_34 rfl (lv_at hl 1 rfl) ?_
    refine va_get (D := D) (ci := 3) (v := .ref q1) (C := RX3) (T := TX3) (N := 2) hx hb hts (by decide +kernel) hown hK hP 0 rfl rfl 0 (by decide) (hts (.fieldLink RX3 11 "HiddenMoves$Mix" "parts" "[LHiddenMoves$Big;") (by decide +kernel)) (fun _ h9 => h9) rfl dX3_init_35 ?_
    refine lv_iload_n hx hb dX3_init_38 rfl (lv_at hl 0 rfl) ?_
    refine va_new (ci := 0) (fs := [.null, .int 0, .int 0]) (C := RX0) (T := TX0) (N := 3) hx hb hts (by decide +kernel) tyX0 tyX0_ok hown (hts (.classLink RX3 9 RX0) (by decide +kernel)) (hts (.instantiable RX0 3) (by decide +kernel)) (hts (.initialized RX0) (by decide +kernel)) hK hP hD hS hA rfl (fun j hj => by rcases (show j = 0 ∨ j = 1 ∨ j = 2 by omega) with rfl | rfl | rfl <;> rfl) (by show 3 + 2 * i + 1 ≤ 43; omega) (by show 55 + 35 * i + 3 ≤ 755; omega) dX3_init_39 (fun q6 H hP hD hS => ?_)
    have hP : va_P D vwCl [(h0, .inr (3, [.ref q1, .ref q3])), (q1, .inl (cA2, 20, .inr (.inr (.inr (.inr fp))))), (q6, .inr (0, [.null, .int 0, .int 0]))] H := hP
    have hD : va_D A [(h0, .inr (3, [.ref q1, .ref q3])), (q1, .inl (cA2, 20, .inr (.inr (.inr (.inr fp))))), (q6, .inr (0, [.null, .int 0, .int 0]))] := hD
    refine W.widen (k := 3 + 2 * i + 1) (n := 55 + 35 * i + 3) (by omega) (by omega) ?_
    refine lv_dup hx hb dX3_init_42 rfl ?_
    refine lv_bipush (v := (32)) hx hb dX3_init_43 (by decide) ?_
    have hPc := hP.sub (ws' := [(q6, .inr (0, [.null, .int 0, .int 0]))]) [2] rfl
    have hDc := hD.sub (ws' := [(q6, .inr (0, [.null, .int 0, .int 0]))]) [2] (by decide) rfl
    have hKc := hK.sub (tys' := []) [] rfl
    have hFc := va_free (wc := [(q6, .inr (0, [.null, .int 0, .int 0]))]) hD hS hA [2] rfl
    refine va_callv (va_runI (As := [.int 32]) (rest := [.ref q6, .int (nI i), .ref q1]) ⟨hx, hb, hml, hown, hts⟩ (c_X0_init_32 l D q6 _) (cwI 1 hts gX3_init_X0_init rfl rfl rfl (hts (.initialized RX0) (by decide +kernel)) (hts (.methodLink RX3 17 yX0_init) (by decide +kernel)) (hts (.instanceMethod yX0_init) (by decide +kernel)) rfl (by decide +kernel) ⟨Nat.le_of_ble_eq_true rfl, Nat.le_of_ble_eq_true rfl⟩) ⟨hm_blind, hm_pre hPc hKc hDc hE⟩ rfl rfl hl.1 rfl (lv_room (Nat.le_of_ble_eq_true rfl)) dX3_init_45 ⟨(by show 3 + 2 * i + 1 + 1 ≤ 43; omega), (by show 55 + 35 * i + 3 + 32 ≤ 755; omega)⟩) hS (fun q _ h => hFc q h) hFc (fun u t H1 locs ht hvm hw hB hz1 hk1 hS => ?_)
    obtain ⟨q7, cA8, hP1, hK1, hD1⟩ := hB
    rw [ht] at hP1
    have hK1 := va_K.moved hvm.symm hK1
    obtain ⟨hP, hD⟩ := va_join (wr := [(h0, .inr (3, [.ref q1, .ref q3])), (q1, .inl (cA2, 20, .inr (.inr (.inr (.inr fp)))))]) (w1 := [(q6, .inr (0, [.ref q7, .int 0, .int 0])), (q7, .inl (cA8, 32, .inl (fun _ => 0)))]) hP hD [2] [0, 1] rfl rfl (by decide) (by decide) hk1 hFc hP1 hD1
    have hK := (hK.sub (tys' := [(cA2, .object RX0)]) [0] rfl).app hK1
    generalize H1 = H at hP hS ⊢
    have hP : va_P D vwCl [(h0, .inr (3, [.ref q1, .ref q3])), (q1, .inl (cA2, 20, .inr (.inr (.inr (.inr fp))))), (q6, .inr (0, [.ref q7, .int 0, .int 0])), (q7, .inl (cA8, 32, .inl (fun _ => 0)))] H := hP
    have hD : va_D A [(h0, .inr (3, [.ref q1, .ref q3])), (q1, .inl (cA2, 20, .inr (.inr (.inr (.inr fp))))), (q6, .inr (0, [.ref q7, .int 0, .int 0])), (q7, .inl (cA8, 32, .inl (fun _ => 0)))] := hD
    have hK : va_K D vwCl [(cA2, .object RX0), (cA8, .int)] s := hK
    refine W.widen (k := 3 + 2 * i + 1 + 1) (n := 55 + 35 * i + 3 + 32) (by omega) (by omega) ?_
    refine va_astq hx hb hK hP hD hS 1 0 2 0 rfl rfl rfl rfl (vp_in_nI hi (by omega)) dX3_init_48 (fun H locs hP hD hS => ?_)
    have hP : va_P D vwCl [(h0, .inr (3, [.ref q1, .ref q3])), (q1, .inl (cA2, 20, .inr (.inr (.inr (.inr (va_up fp (nI i).toNatClampNeg (some q6))))))), (q6, .inr (0, [.ref q7, .int 0, .int 0])), (q7, .inl (cA8, 32, .inl (fun _ => 0)))] H := hP
    have hD : va_D A [(h0, .inr (3, [.ref q1, .ref q3])), (q1, .inl (cA2, 20, .inr (.inr (.inr (.inr (va_up fp (nI i).toNatClampNeg (some q6))))))), (q6, .inr (0, [.ref q7, .int 0, .int 0])), (q7, .inl (cA8, 32, .inl (fun _ => 0)))] := hD
    have hP := hP.sub (ws' := [(h0, .inr (3, [.ref q1, .ref q3])), (q1, .inl (cA2, 20, .inr (.inr (.inr (.inr (va_up fp (nI i).toNatClampNeg (some q6)))))))]) [0, 1] rfl
    have hD := hD.sub (ws' := [(h0, .inr (3, [.ref q1, .ref q3])), (q1, .inl (cA2, 20, .inr (.inr (.inr (.inr (va_up fp (nI i).toNatClampNeg (some q6)))))))]) [0, 1] (by decide) rfl
    have hK := hK.sub (tys' := [(cA2, .object RX0)]) [0] rfl
    refine lv_iinc (v := nI (i + 1)) (lv' := [(1, .int (nI (i + 1))), (0, .ref h0)]) hx hb dX3_init_49 hl (k := 0) rfl (nI_1 i) (by decide) rfl (fun ls hl => ?_)
    refine lv_goto (tgt := 28) hx hb dX3_init_52 (by decide) ?_
    have hP := hP.sub (ws' := [(h0, .inr (3, [.ref q1, .ref q3])), (q1, .inl (cA2, 20, .inr (.inr (.inr (.inr (va_up fp (nI i).toNatClampNeg (some q6)))))))]) [0, 1] rfl
    have hD := hD.sub (ws' := [(h0, .inr (3, [.ref q1, .ref q3])), (q1, .inl (cA2, 20, .inr (.inr (.inr (.inr (va_up fp (nI i).toNatClampNeg (some q6)))))))]) [0, 1] (by decide) rfl
    refine W.widen (k := 3 + 2 * (i + 1)) (n := 55 + 35 * (i + 1)) (by omega) (by omega) ?_
    exact ih ((va_up fp (nI i).toNatClampNeg (some q6))) _ _ _ ⟨hP, hD, hS, lv_sub hl [0, 1] rfl⟩

set_option maxHeartbeats 1000000 in
set_option maxRecDepth 100000 in
/-- Reply() -/
theorem c_X6_init (l : Launch) (D : va_G) (h0 sz : Nat) : Met l yX6_init wsX6_init ({ frames := 2, cells := 47, slots := 812, locals := 33 }) (va_Pc [.ref h0] (hm_P D [(h0, .inr (6, [.null, .null, .null, .null, .null]))] [] sz)) (va_Qv (fun _ : Unit => True) (fun _ t => ∃ (q1 : Nat) (q3 : Nat) (q5 : Nat) (q7 : Nat) (q10 : Nat), hm_B D (va_A [(h0, .inr (6, [.null, .null, .null, .null, .null]))] sz) [(h0, .inr (6, [.ref q1, .ref q3, .ref q5, .ref q7, .ref q10]))] [] t) (va_A [(h0, .inr (6, [.null, .null, .null, .null, .null]))] sz)) 47 812 (va_A [(h0, .inr (6, [.null, .null, .null, .null, .null]))] sz) := by
  refine Met.ofW (cc := cX6_init) (maxL := 2) (ret := none) (by decide) rfl ?_
  intro p e s m args below meth c s₁ B hml hv
  obtain ⟨rfl, hsz, hP, hK, hD0, hE⟩ := hv
  have hx := B.exec
  have hb := B.bytes
  have hr := B.returns
  have hts := atoms_spec (ws := wsX6_init) B.pre
  have hown : s.vm.findClass RX6 = some m.cls := findClass_of_methodNamed B.named
  have hlocks := B.notSynchronized
  have hin : meth.name = "<init>" := (name_of_methodNamed B.named B.method).1
  subst hsz
  have hD := hD0.self (sz := s.heap.size)
  generalize hAe : va_A [(h0, .inr (6, [.null, .null, .null, .null, .null]))] s.heap.size = A at hD ⊢
  have hA : ∀ q : Nat, s.heap.size ≤ q → A q := fun q h => by rw [← hAe]; exact Or.inr h
  have hS : va_S A s.heap s.heap [] := va_S.rf
  have hP : va_P D vwCl [(h0, .inr (6, [.null, .null, .null, .null, .null]))] s.heap := hP
  have hl := lv_entry ([.ref h0]) (n := 2) (Nat.le_of_ble_eq_true rfl)
  rw [lg_entry_eq]
  generalize (lg_sl ([.ref h0]) ++ List.replicate (2 - (lg_sl ([.ref h0])).length) Slot.unset).toArray = ls at hl ⊢
  have hl : lv_has ls 2 [(0, .ref h0)] := hl
  refine lv_aload_n hx hb dX6_init_0 rfl (lv_at hl 0 rfl) ?_
  refine W.objInit hx hb hown (hts (.methodLink RX6 3 objectInit) (by decide +kernel)) (hts (.instanceMethod objectInit) (by decide +kernel)) (hts _ (List.mem_of_getElem? (i := 3) rfl)) rfl (by rw [hml]; exact hl.1) rfl dX6_init_1 (Nat.le_of_ble_eq_true rfl) (Nat.le_of_ble_eq_true rfl) ?_
  refine W.eq (g2 := F0 m 4 ls []) rfl ?_
  refine lv_aload_n hx hb dX6_init_4 rfl (lv_at hl 0 rfl) ?_
  refine lv_bipush (v := (10)) hx hb dX6_init_5 (by decide) ?_
  refine va_newa (atype := .int) (ty := .int) (N' := 10) (a0 := (10, .inl (fun _ => 0))) hx hb (hts (.arrayClass .int) (by decide +kernel)) rfl hK hP hD hS hA (fun cA => vp_cell_i cA 10 (fun _ => 0)) (by decide) (by decide) (by decide) (Nat.le_of_ble_eq_true rfl) (Nat.le_of_ble_eq_true rfl) dX6_init_7 (fun q1 cA2 H hK hP hD hS => ?_)
  have hP : va_P D vwCl [(h0, .inr (6, [.null, .null, .null, .null, .null])), (q1, .inl (cA2, 10, .inl (fun _ => 0)))] H := hP
  have hD : va_D A [(h0, .inr (6, [.null, .null, .null, .null, .null])), (q1, .inl (cA2, 10, .inl (fun _ => 0)))] := hD
  have hK : va_K D vwCl [(cA2, .int)] s := hK
  refine W.widen (k := 1) (n := 10) (by omega) (by omega) ?_
  refine va_putF (D := D) (ci := 6) (v := .ref q1) (ty := .array .int) (C := RX6) (T := TX6) (N := 5) hx hb hts (by decide +kernel) tyX6 tyX6_ok nmX6 hown hK hP hD hS 0 rfl rfl 0 (by decide) (hts (.fieldLink RX6 9 "HiddenMoves$Reply" "moves" "[I") (by decide +kernel)) (fun _ h9 => h9) rfl hin rfl (by decide +kernel) rfl rfl (Nat.le_of_ble_eq_true rfl) dX6_init_9 (fun H locs hP hD hS => ?_)
  have hP : va_P D vwCl [(h0, .inr (6, [.ref q1, .null, .null, .null, .null])), (q1, .inl (cA2, 10, .inl (fun _ => 0)))] H := hP
  have hD : va_D A [(h0, .inr (6, [.ref q1, .null, .null, .null, .null])), (q1, .inl (cA2, 10, .inl (fun _ => 0)))] := hD
  have hP := hP.sub (ws' := [(h0, .inr (6, [.ref q1, .null, .null, .null, .null]))]) [0] rfl
  have hD := hD.sub (ws' := [(h0, .inr (6, [.ref q1, .null, .null, .null, .null]))]) [0] (by decide) rfl
  have hK := hK.sub (tys' := []) [] rfl
  refine lv_aload_n hx hb dX6_init_12 rfl (lv_at hl 0 rfl) ?_
  refine lv_bipush (v := (10)) hx hb dX6_init_13 (by decide) ?_
  refine va_newa (atype := .boolean) (ty := .boolean) (N' := 10) (a0 := (10, .inl (fun _ => 0))) hx hb (hts (.arrayClass .boolean) (by decide +kernel)) rfl hK hP hD hS hA (fun cA => vp_cell_i cA 10 (fun _ => 0)) (by decide) (by decide) (by decide) (Nat.le_of_ble_eq_true rfl) (Nat.le_of_ble_eq_true rfl) dX6_init_15 (fun q3 cA4 H hK hP hD hS => ?_)
  have hP : va_P D vwCl [(h0, .inr (6, [.ref q1, .null, .null, .null, .null])), (q3, .inl (cA4, 10, .inl (fun _ => 0)))] H := hP
  have hD : va_D A [(h0, .inr (6, [.ref q1, .null, .null, .null, .null])), (q3, .inl (cA4, 10, .inl (fun _ => 0)))] := hD
  have hK : va_K D vwCl [(cA4, .boolean)] s := hK
  refine W.widen (k := 2) (n := 20) (by omega) (by omega) ?_
  refine va_putF (D := D) (ci := 6) (v := .ref q3) (ty := .array .boolean) (C := RX6) (T := TX6) (N := 5) hx hb hts (by decide +kernel) tyX6 tyX6_ok nmX6 hown hK hP hD hS 0 rfl rfl 1 (by decide) (hts (.fieldLink RX6 15 "HiddenMoves$Reply" "isReached" "[Z") (by decide +kernel)) (fun _ h9 => h9) rfl hin rfl (by decide +kernel) rfl rfl (Nat.le_of_ble_eq_true rfl) dX6_init_17 (fun H locs hP hD hS => ?_)
  have hP : va_P D vwCl [(h0, .inr (6, [.ref q1, .ref q3, .null, .null, .null])), (q3, .inl (cA4, 10, .inl (fun _ => 0)))] H := hP
  have hD : va_D A [(h0, .inr (6, [.ref q1, .ref q3, .null, .null, .null])), (q3, .inl (cA4, 10, .inl (fun _ => 0)))] := hD
  have hP := hP.sub (ws' := [(h0, .inr (6, [.ref q1, .ref q3, .null, .null, .null]))]) [0] rfl
  have hD := hD.sub (ws' := [(h0, .inr (6, [.ref q1, .ref q3, .null, .null, .null]))]) [0] (by decide) rfl
  have hK := hK.sub (tys' := []) [] rfl
  refine lv_aload_n hx hb dX6_init_20 rfl (lv_at hl 0 rfl) ?_
  refine lv_bipush (v := (20)) hx hb dX6_init_21 (by decide) ?_
  refine va_newq (N' := 20) hx hb hown (hts (.classLink RX6 19 RX0) (by decide +kernel)) hE.ao_RX0 hK hP hD hS hA (by decide) (by decide) (by decide) (Nat.le_of_ble_eq_true rfl) (Nat.le_of_ble_eq_true rfl) dX6_init_23 (fun q5 cA6 H hK hP hD hS => ?_)
  have hP : va_P D vwCl [(h0, .inr (6, [.ref q1, .ref q3, .null, .null, .null])), (q5, .inl (cA6, 20, .inr (.inr (.inr (.inr (fun _ => none))))))] H := hP
  have hD : va_D A [(h0, .inr (6, [.ref q1, .ref q3, .null, .null, .null])), (q5, .inl (cA6, 20, .inr (.inr (.inr (.inr (fun _ => none))))))] := hD
  have hK : va_K D vwCl [(cA6, .object RX0)] s := hK
  refine W.widen (k := 3) (n := 40) (by omega) (by omega) ?_
  refine va_putF (D := D) (ci := 6) (v := .ref q5) (ty := .array (.object "HiddenMoves$Big")) (C := RX6) (T := TX6) (N := 5) hx hb hts (by decide +kernel) tyX6 tyX6_ok nmX6 hown hK hP hD hS 0 rfl rfl 2 (by decide) (hts (.fieldLink RX6 21 "HiddenMoves$Reply" "gains" "[LHiddenMoves$Big;") (by decide +kernel)) (fun _ h9 => h9) rfl hin rfl (by decide +kernel) rfl rfl (Nat.le_of_ble_eq_true rfl) dX6_init_26 (fun H locs hP hD hS => ?_)
  have hP : va_P D vwCl [(h0, .inr (6, [.ref q1, .ref q3, .ref q5, .null, .null])), (q5, .inl (cA6, 20, .inr (.inr (.inr (.inr (fun _ => none))))))] H := hP
  have hD : va_D A [(h0, .inr (6, [.ref q1, .ref q3, .ref q5, .null, .null])), (q5, .inl (cA6, 20, .inr (.inr (.inr (.inr (fun _ => none))))))] := hD
  refine lv_aload_n hx hb dX6_init_29 rfl (lv_at hl 0 rfl) ?_
  refine va_new (ci := 0) (fs := [.null, .int 0, .int 0]) (C := RX0) (T := TX0) (N := 3) hx hb hts (by decide +kernel) tyX0 tyX0_ok hown (hts (.classLink RX6 19 RX0) (by decide +kernel)) (hts (.instantiable RX0 3) (by decide +kernel)) (hts (.initialized RX0) (by decide +kernel)) hK hP hD hS hA rfl (fun j hj => by rcases (show j = 0 ∨ j = 1 ∨ j = 2 by omega) with rfl | rfl | rfl <;> rfl) (Nat.le_of_ble_eq_true rfl) (Nat.le_of_ble_eq_true rfl) dX6_init_30 (fun q7 H hP hD hS => ?_)
  have hP : va_P D vwCl [(h0, .inr (6, [.ref q1, .ref q3, .ref q5, .null, .null])), (q5, .inl (cA6, 20, .inr (.inr (.inr (.inr (fun _ => none)))))), (q7, .inr (0, [.null, .int 0, .int 0]))] H := hP
  have hD : va_D A [(h0, .inr (6, [.ref q1, .ref q3, .ref q5, .null, .null])), (q5, .inl (cA6, 20, .inr (.inr (.inr (.inr (fun _ => none)))))), (q7, .inr (0, [.null, .int 0, .int 0]))] := hD
  refine W.widen (k := 4) (n := 43) (by omega) (by omega) ?_
  refine lv_dup hx hb dX6_init_33 rfl ?_
  refine lv_iconst (v := 2) hx hb dX6_init_34 (by decide) ?_
  have hPc := hP.sub (ws' := [(q7, .inr (0, [.null, .int 0, .int 0]))]) [2] rfl
  have hDc := hD.sub (ws' := [(q7, .inr (0, [.null, .int 0, .int 0]))]) [2] (by decide) rfl
  have hKc := hK.sub (tys' := []) [] rfl
  have hFc := va_free (wc := [(q7, .inr (0, [.null, .int 0, .int 0]))]) hD hS hA [2] rfl
  refine va_callv (va_runI (As := [.int 2]) (rest := [.ref q7, .ref h0]) ⟨hx, hb, hml, hown, hts⟩ (c_X0_init_2 l D q7 _) (cwI 1 hts gX6_init_X0_init rfl rfl rfl (hts (.initialized RX0) (by decide +kernel)) (hts (.methodLink RX6 25 yX0_init) (by decide +kernel)) (hts (.instanceMethod yX0_init) (by decide +kernel)) rfl (by decide +kernel) ⟨Nat.le_of_ble_eq_true rfl, Nat.le_of_ble_eq_true rfl⟩) ⟨hm_blind, hm_pre hPc hKc hDc hE⟩ rfl rfl hl.1 rfl (lv_room (Nat.le_of_ble_eq_true rfl)) dX6_init_35 ⟨(Nat.le_of_ble_eq_true rfl), (Nat.le_of_ble_eq_true rfl)⟩) hS (fun q _ h => hFc q h) hFc (fun u t H1 locs ht hvm hw hB hz1 hk1 hS => ?_)
  obtain ⟨q8, cA9, hP1, hK1, hD1⟩ := hB
  rw [ht] at hP1
  have hK1 := va_K.moved hvm.symm hK1
  obtain ⟨hP, hD⟩ := va_join (wr := [(h0, .inr (6, [.ref q1, .ref q3, .ref q5, .null, .null])), (q5, .inl (cA6, 20, .inr (.inr (.inr (.inr (fun _ => none))))))]) (w1 := [(q7, .inr (0, [.ref q8, .int 0, .int 0])), (q8, .inl (cA9, 2, .inl (fun _ => 0)))]) hP hD [2] [0, 1] rfl rfl (by decide) (by decide) hk1 hFc hP1 hD1
  have hK := (hK.sub (tys' := [(cA6, .object RX0)]) [0] rfl).app hK1
  generalize H1 = H at hP hS ⊢
  have hP : va_P D vwCl [(h0, .inr (6, [.ref q1, .ref q3, .ref q5, .null, .null])), (q5, .inl (cA6, 20, .inr (.inr (.inr (.inr (fun _ => none)))))), (q7, .inr (0, [.ref q8, .int 0, .int 0])), (q8, .inl (cA9, 2, .inl (fun _ => 0)))] H := hP
  have hD : va_D A [(h0, .inr (6, [.ref q1, .ref q3, .ref q5, .null, .null])), (q5, .inl (cA6, 20, .inr (.inr (.inr (.inr (fun _ => none)))))), (q7, .inr (0, [.ref q8, .int 0, .int 0])), (q8, .inl (cA9, 2, .inl (fun _ => 0)))] := hD
  have hK : va_K D vwCl [(cA6, .object RX0), (cA9, .int)] s := hK
  refine W.widen (k := 5) (n := 45) (by omega) (by omega) ?_
  refine va_putF (D := D) (ci := 6) (v := .ref q7) (ty := .object "HiddenMoves$Big") (C := RX6) (T := TX6) (N := 5) hx hb hts (by decide +kernel) tyX6 tyX6_ok nmX6 hown hK hP hD hS 0 rfl rfl 3 (by decide) (hts (.fieldLink RX6 28 "HiddenMoves$Reply" "factor" "LHiddenMoves$Big;") (by decide +kernel)) (fun _ h9 => h9) rfl hin rfl (by decide +kernel) rfl rfl (Nat.le_of_ble_eq_true rfl) dX6_init_38 (fun H locs hP hD hS => ?_)
  have hP : va_P D vwCl [(h0, .inr (6, [.ref q1, .ref q3, .ref q5, .ref q7, .null])), (q5, .inl (cA6, 20, .inr (.inr (.inr (.inr (fun _ => none)))))), (q7, .inr (0, [.ref q8, .int 0, .int 0])), (q8, .inl (cA9, 2, .inl (fun _ => 0)))] H := hP
  have hD : va_D A [(h0, .inr (6, [.ref q1, .ref q3, .ref q5, .ref q7, .null])), (q5, .inl (cA6, 20, .inr (.inr (.inr (.inr (fun _ => none)))))), (q7, .inr (0, [.ref q8, .int 0, .int 0])), (q8, .inl (cA9, 2, .inl (fun _ => 0)))] := hD
  have hP := hP.sub (ws' := [(h0, .inr (6, [.ref q1, .ref q3, .ref q5, .ref q7, .null])), (q5, .inl (cA6, 20, .inr (.inr (.inr (.inr (fun _ => none))))))]) [0, 1] rfl
  have hD := hD.sub (ws' := [(h0, .inr (6, [.ref q1, .ref q3, .ref q5, .ref q7, .null])), (q5, .inl (cA6, 20, .inr (.inr (.inr (.inr (fun _ => none))))))]) [0, 1] (by decide) rfl
  have hK := hK.sub (tys' := [(cA6, .object RX0)]) [0] rfl
  refine lv_aload_n hx hb dX6_init_41 rfl (lv_at hl 0 rfl) ?_
  refine va_new (ci := 0) (fs := [.null, .int 0, .int 0]) (C := RX0) (T := TX0) (N := 3) hx hb hts (by decide +kernel) tyX0 tyX0_ok hown (hts (.classLink RX6 19 RX0) (by decide +kernel)) (hts (.instantiable RX0 3) (by decide +kernel)) (hts (.initialized RX0) (by decide +kernel)) hK hP hD hS hA rfl (fun j hj => by rcases (show j = 0 ∨ j = 1 ∨ j = 2 by omega) with rfl | rfl | rfl <;> rfl) (Nat.le_of_ble_eq_true rfl) (Nat.le_of_ble_eq_true rfl) dX6_init_42 (fun q10 H hP hD hS => ?_)
  have hP : va_P D vwCl [(h0, .inr (6, [.ref q1, .ref q3, .ref q5, .ref q7, .null])), (q5, .inl (cA6, 20, .inr (.inr (.inr (.inr (fun _ => none)))))), (q10, .inr (0, [.null, .int 0, .int 0]))] H := hP
  have hD : va_D A [(h0, .inr (6, [.ref q1, .ref q3, .ref q5, .ref q7, .null])), (q5, .inl (cA6, 20, .inr (.inr (.inr (.inr (fun _ => none)))))), (q10, .inr (0, [.null, .int 0, .int 0]))] := hD
  refine W.widen (k := 6) (n := 48) (by omega) (by omega) ?_
  refine lv_dup hx hb dX6_init_45 rfl ?_
  refine lv_bipush (v := (64)) hx hb dX6_init_46 (by decide) ?_
  have hPc := hP.sub (ws' := [(q10, .inr (0, [.null, .int 0, .int 0]))]) [2] rfl
  have hDc := hD.sub (ws' := [(q10, .inr (0, [.null, .int 0, .int 0]))]) [2] (by decide) rfl
  have hKc := hK.sub (tys' := []) [] rfl
  have hFc := va_free (wc := [(q10, .inr (0, [.null, .int 0, .int 0]))]) hD hS hA [2] rfl
  refine va_callv (va_runI (As := [.int 64]) (rest := [.ref q10, .ref h0]) ⟨hx, hb, hml, hown, hts⟩ (c_X0_init_64 l D q10 _) (cwI 1 hts gX6_init_X0_init rfl rfl rfl (hts (.initialized RX0) (by decide +kernel)) (hts (.methodLink RX6 25 yX0_init) (by decide +kernel)) (hts (.instanceMethod yX0_init) (by decide +kernel)) rfl (by decide +kernel) ⟨Nat.le_of_ble_eq_true rfl, Nat.le_of_ble_eq_true rfl⟩) ⟨hm_blind, hm_pre hPc hKc hDc hE⟩ rfl rfl hl.1 rfl (lv_room (Nat.le_of_ble_eq_true rfl)) dX6_init_48 ⟨(Nat.le_of_ble_eq_true rfl), (Nat.le_of_ble_eq_true rfl)⟩) hS (fun q _ h => hFc q h) hFc (fun u t H1 locs ht hvm hw hB hz1 hk1 hS => ?_)
  obtain ⟨q11, cA12, hP1, hK1, hD1⟩ := hB
  rw [ht] at hP1
  have hK1 := va_K.moved hvm.symm hK1
  obtain ⟨hP, hD⟩ := va_join (wr := [(h0, .inr (6, [.ref q1, .ref q3, .ref q5, .ref q7, .null])), (q5, .inl (cA6, 20, .inr (.inr (.inr (.inr (fun _ => none))))))]) (w1 := [(q10, .inr (0, [.ref q11, .int 0, .int 0])), (q11, .inl (cA12, 64, .inl (fun _ => 0)))]) hP hD [2] [0, 1] rfl rfl (by decide) (by decide) hk1 hFc hP1 hD1
  have hK := (hK.sub (tys' := [(cA6, .object RX0)]) [0] rfl).app hK1
  generalize H1 = H at hP hS ⊢
  have hP : va_P D vwCl [(h0, .inr (6, [.ref q1, .ref q3, .ref q5, .ref q7, .null])), (q5, .inl (cA6, 20, .inr (.inr (.inr (.inr (fun _ => none)))))), (q10, .inr (0, [.ref q11, .int 0, .int 0])), (q11, .inl (cA12, 64, .inl (fun _ => 0)))] H := hP
  have hD : va_D A [(h0, .inr (6, [.ref q1, .ref q3, .ref q5, .ref q7, .null])), (q5, .inl (cA6, 20, .inr (.inr (.inr (.inr (fun _ => none)))))), (q10, .inr (0, [.ref q11, .int 0, .int 0])), (q11, .inl (cA12, 64, .inl (fun _ => 0)))] := hD
  have hK : va_K D vwCl [(cA6, .object RX0), (cA12, .int)] s := hK
  refine W.widen (k := 7) (n := 112) (by omega) (by omega) ?_
  refine va_putF (D := D) (ci := 6) (v := .ref q10) (ty := .object "HiddenMoves$Big") (C := RX6) (T := TX6) (N := 5) hx hb hts (by decide +kernel) tyX6 tyX6_ok nmX6 hown hK hP hD hS 0 rfl rfl 4 (by decide) (hts (.fieldLink RX6 32 "HiddenMoves$Reply" "term" "LHiddenMoves$Big;") (by decide +kernel)) (fun _ h9 => h9) rfl hin rfl (by decide +kernel) rfl rfl (Nat.le_of_ble_eq_true rfl) dX6_init_51 (fun H locs hP hD hS => ?_)
  have hP : va_P D vwCl [(h0, .inr (6, [.ref q1, .ref q3, .ref q5, .ref q7, .ref q10])), (q5, .inl (cA6, 20, .inr (.inr (.inr (.inr (fun _ => none)))))), (q10, .inr (0, [.ref q11, .int 0, .int 0])), (q11, .inl (cA12, 64, .inl (fun _ => 0)))] H := hP
  have hD : va_D A [(h0, .inr (6, [.ref q1, .ref q3, .ref q5, .ref q7, .ref q10])), (q5, .inl (cA6, 20, .inr (.inr (.inr (.inr (fun _ => none)))))), (q10, .inr (0, [.ref q11, .int 0, .int 0])), (q11, .inl (cA12, 64, .inl (fun _ => 0)))] := hD
  have hP := hP.sub (ws' := [(h0, .inr (6, [.ref q1, .ref q3, .ref q5, .ref q7, .ref q10])), (q5, .inl (cA6, 20, .inr (.inr (.inr (.inr (fun _ => none))))))]) [0, 1] rfl
  have hD := hD.sub (ws' := [(h0, .inr (6, [.ref q1, .ref q3, .ref q5, .ref q7, .ref q10])), (q5, .inl (cA6, 20, .inr (.inr (.inr (.inr (fun _ => none))))))]) [0, 1] (by decide) rfl
  have hK := hK.sub (tys' := [(cA6, .object RX0)]) [0] rfl
  refine lv_iconst (v := 0) hx hb dX6_init_54 (by decide) ?_
  refine lv_istore_n (lv' := [(1, .int 0), (0, .ref h0)]) hx hb dX6_init_55 rfl hl (by decide) rfl (fun ls hl => ?_)
  refine hm_loop (σ := (Nat → Option Nat)) 20 (fun i x H locs ls => match x with | fp => va_P D vwCl [(h0, .inr (6, [.ref q1, .ref q3, .ref q5, .ref q7, .ref q10])), (q5, .inl (cA6, 20, .inr (.inr (.inr (.inr fp)))))] H ∧ va_D A [(h0, .inr (6, [.ref q1, .ref q3, .ref q5, .ref q7, .ref q10])), (q5, .inl (cA6, 20, .inr (.inr (.inr (.inr fp)))))] ∧ va_S A s.heap H locs ∧ lv_has ls 2 [(1, .int (nI i)), (0, .ref h0)]) (fun i => 7 + 2 * i) (fun i => 112 + 35 * i) 56 ?_ ?_ ((fun _ => none)) ⟨hP, hD, hS, hl⟩
  · intro x H locs ls hI
    obtain ⟨fp, rfl⟩ : ∃ z, z = x := ⟨_, rfl⟩
    obtain ⟨hP, hD, hS, hl⟩ := hI
    have hP : va_P D vwCl [(h0, .inr (6, [.ref q1, .ref q3, .ref q5, .ref q7, .ref q10])), (q5, .inl (cA6, 20, .inr (.inr (.inr (.inr fp)))))] H := hP
    have hD : va_D A [(h0, .inr (6, [.ref q1, .ref q3, .ref q5, .ref q7, .ref q10])), (q5, .inl (cA6, 20, .inr (.inr (.inr (.inr fp)))))] := hD
    have hl : lv_has ls 2 [(1, .int 20), (0, .ref h0)] := hl
    refine W.widen (k := 47) (n := 812) (Nat.le_refl _) (Nat.le_refl _) ?_
    refine lv_iload_n hx hb dX6_init_56 rfl (lv_at hl 0 rfl) ?_
    refine lv_bipush (v := (20)) hx hb dX6_init_57 (by decide) ?_
    refine lv_icmp_ge (tgt := 83) hx hb dX6_init_59 (by decide) (fun _ => ?_) (fun c9 => absurd (by decide) c9)
    have hP9 := hP.sub (ws' := [(h0, .inr (6, [.ref q1, .ref q3, .ref q5, .ref q7, .ref q10]))]) [0] rfl
    have hD9 := hD.sub (ws' := [(h0, .inr (6, [.ref q1, .ref q3, .ref q5, .ref q7, .ref q10]))]) [0] (by decide) rfl
    have hK9 := hK.sub (tys' := []) [] rfl
    refine W.widen (k := 47) (n := 812) (by omega) (by omega) ?_
    exact W.vret hx hb hr (fun t ht hW => ⟨⟨(), rfl, trivial, q1, q3, q5, q7, q10, by rw [ht]; exact hP9, va_K.moved hW.alike hK9, hD9⟩, hS.F ht⟩) hS.2.2 dX6_init_83
  · intro i x H locs ls hi hI ih
    obtain ⟨fp, rfl⟩ : ∃ z, z = x := ⟨_, rfl⟩
    obtain ⟨hP, hD, hS, hl⟩ := hI
    have hP : va_P D vwCl [(h0, .inr (6, [.ref q1, .ref q3, .ref q5, .ref q7, .ref q10])), (q5, .inl (cA6, 20, .inr (.inr (.inr (.inr fp)))))] H := hP
    have hD : va_D A [(h0, .inr (6, [.ref q1, .ref q3, .ref q5, .ref q7, .ref q10])), (q5, .inl (cA6, 20, .inr (.inr (.inr (.inr fp)))))] := hD
    have hl : lv_has ls 2 [(1, .int (nI i)), (0, .ref h0)] := hl
    refine W.widen (k := 7 + 2 * i) (n := 112 + 35 * i) (Nat.le_refl _) (Nat.le_refl _) ?_
    refine lv_iload_n hx hb dX6_init_56 rfl (lv_at hl 0 rfl) ?_
    refine lv_bipush (v := (20)) hx hb dX6_init_57 (by decide) ?_
    refine lv_icmp_ge (tgt := 83) hx hb dX6_init_59 (by decide) (fun c9 => absurd c9 (nI_ge (b := 20) hi (by decide))) (fun _ => ?_)
    refine lv_aload_n hx hb dX6_init_62 rfl (lv_at hl 1 rfl) ?_
    refine va_get (D := D) (ci := 6) (v := .ref q5) (C := RX6) (T := TX6) (N := 5) hx hb hts (by decide +kernel) hown hK hP 0 rfl rfl 2 (by decide) (hts (.fieldLink RX6 21 "HiddenMoves$Reply" "gains" "[LHiddenMoves$Big;") (by decide +kernel)) (fun _ h9 => h9) rfl dX6_init_63 ?_
    refine lv_iload_n hx hb dX6_init_66 rfl (lv_at hl 0 rfl) ?_
    refine va_new (ci := 0) (fs := [.null, .int 0, .int 0]) (C := RX0) (T := TX0) (N := 3) hx hb hts (by decide +kernel) tyX0 tyX0_ok hown (hts (.classLink RX6 19 RX0) (by decide +kernel)) (hts (.instantiable RX0 3) (by decide +kernel)) (hts (.initialized RX0) (by decide +kernel)) hK hP hD hS hA rfl (fun j hj => by rcases (show j = 0 ∨ j = 1 ∨ j = 2 by omega) with rfl | rfl | rfl <;> rfl) (by show 7 + 2 * i + 1 ≤ 47; omega) (by show 112 + 35 * i + 3 ≤ 812; omega) dX6_init_67 (fun q13 H hP hD hS => ?_)
    have hP : va_P D vwCl [(h0, .inr (6, [.ref q1, .ref q3, .ref q5, .ref q7, .ref q10])), (q5, .inl (cA6, 20, .inr (.inr (.inr (.inr fp))))), (q13, .inr (0, [.null, .int 0, .int 0]))] H := hP
    have hD : va_D A [(h0, .inr (6, [.ref q1, .ref q3, .ref q5, .ref q7, .ref q10])), (q5, .inl (cA6, 20, .inr (.inr (.inr (.inr fp))))), (q13, .inr (0, [.null, .int 0, .int 0]))] := hD
    refine W.widen (k := 7 + 2 * i + 1) (n := 112 + 35 * i + 3) (by omega) (by omega) ?_
    refine lv_dup hx hb dX6_init_70 rfl ?_
    refine lv_bipush (v := (32)) hx hb dX6_init_71 (by decide) ?_
    have hPc := hP.sub (ws' := [(q13, .inr (0, [.null, .int 0, .int 0]))]) [2] rfl
    have hDc := hD.sub (ws' := [(q13, .inr (0, [.null, .int 0, .int 0]))]) [2] (by decide) rfl
    have hKc := hK.sub (tys' := []) [] rfl
    have hFc := va_free (wc := [(q13, .inr (0, [.null, .int 0, .int 0]))]) hD hS hA [2] rfl
    refine va_callv (va_runI (As := [.int 32]) (rest := [.ref q13, .int (nI i), .ref q5]) ⟨hx, hb, hml, hown, hts⟩ (c_X0_init_32 l D q13 _) (cwI 1 hts gX6_init_X0_init rfl rfl rfl (hts (.initialized RX0) (by decide +kernel)) (hts (.methodLink RX6 25 yX0_init) (by decide +kernel)) (hts (.instanceMethod yX0_init) (by decide +kernel)) rfl (by decide +kernel) ⟨Nat.le_of_ble_eq_true rfl, Nat.le_of_ble_eq_true rfl⟩) ⟨hm_blind, hm_pre hPc hKc hDc hE⟩ rfl rfl hl.1 rfl (lv_room (Nat.le_of_ble_eq_true rfl)) dX6_init_73 ⟨(by show 7 + 2 * i + 1 + 1 ≤ 47; omega), (by show 112 + 35 * i + 3 + 32 ≤ 812; omega)⟩) hS (fun q _ h => hFc q h) hFc (fun u t H1 locs ht hvm hw hB hz1 hk1 hS => ?_)
    obtain ⟨q14, cA15, hP1, hK1, hD1⟩ := hB
    rw [ht] at hP1
    have hK1 := va_K.moved hvm.symm hK1
    obtain ⟨hP, hD⟩ := va_join (wr := [(h0, .inr (6, [.ref q1, .ref q3, .ref q5, .ref q7, .ref q10])), (q5, .inl (cA6, 20, .inr (.inr (.inr (.inr fp)))))]) (w1 := [(q13, .inr (0, [.ref q14, .int 0, .int 0])), (q14, .inl (cA15, 32, .inl (fun _ => 0)))]) hP hD [2] [0, 1] rfl rfl (by decide) (by decide) hk1 hFc hP1 hD1
    have hK := (hK.sub (tys' := [(cA6, .object RX0)]) [0] rfl).app hK1
    generalize H1 = H at hP hS ⊢
    have hP : va_P D vwCl [(h0, .inr (6, [.ref q1, .ref q3, .ref q5, .ref q7, .ref q10])), (q5, .inl (cA6, 20, .inr (.inr (.inr (.inr fp))))), (q13, .inr (0, [.ref q14, .int 0, .int 0])), (q14, .inl (cA15, 32, .inl (fun _ => 0)))] H := hP
    have hD : va_D A [(h0, .inr (6, [.ref q1, .ref q3, .ref q5, .ref q7, .ref q10])), (q5, .inl (cA6, 20, .inr (.inr (.inr (.inr fp))))), (q13, .inr (0, [.ref q14, .int 0, .int 0])), (q14, .inl (cA15, 32, .inl (fun _ => 0)))] := hD
    have hK : va_K D vwCl [(cA6, .object RX0), (cA15, .int)] s := hK
    refine W.widen (k := 7 + 2 * i + 1 + 1) (n := 112 + 35 * i + 3 + 32) (by omega) (by omega) ?_
    refine va_astq hx hb hK hP hD hS 1 0 2 0 rfl rfl rfl rfl (vp_in_nI hi (by omega)) dX6_init_76 (fun H locs hP hD hS => ?_)
    have hP : va_P D vwCl [(h0, .inr (6, [.ref q1, .ref q3, .ref q5, .ref q7, .ref q10])), (q5, .inl (cA6, 20, .inr (.inr (.inr (.inr (va_up fp (nI i).toNatClampNeg (some q13))))))), (q13, .inr (0, [.ref q14, .int 0, .int 0])), (q14, .inl (cA15, 32, .inl (fun _ => 0)))] H := hP
    have hD : va_D A [(h0, .inr (6, [.ref q1, .ref q3, .ref q5, .ref q7, .ref q10])), (q5, .inl (cA6, 20, .inr (.inr (.inr (.inr (va_up fp (nI i).toNatClampNeg (some q13))))))), (q13, .inr (0, [.ref q14, .int 0, .int 0])), (q14, .inl (cA15, 32, .inl (fun _ => 0)))] := hD
    have hP := hP.sub (ws' := [(h0, .inr (6, [.ref q1, .ref q3, .ref q5, .ref q7, .ref q10])), (q5, .inl (cA6, 20, .inr (.inr (.inr (.inr (va_up fp (nI i).toNatClampNeg (some q13)))))))]) [0, 1] rfl
    have hD := hD.sub (ws' := [(h0, .inr (6, [.ref q1, .ref q3, .ref q5, .ref q7, .ref q10])), (q5, .inl (cA6, 20, .inr (.inr (.inr (.inr (va_up fp (nI i).toNatClampNeg (some q13)))))))]) [0, 1] (by decide) rfl
    have hK := hK.sub (tys' := [(cA6, .object RX0)]) [0] rfl
    refine lv_iinc (v := nI (i + 1)) (lv' := [(1, .int (nI (i + 1))), (0, .ref h0)]) hx hb dX6_init_77 hl (k := 0) rfl (nI_1 i) (by decide) rfl (fun ls hl => ?_)
    refine lv_goto (tgt := 56) hx hb dX6_init_80 (by decide) ?_
    have hP := hP.sub (ws' := [(h0, .inr (6, [.ref q1, .ref q3, .ref q5, .ref q7, .ref q10])), (q5, .inl (cA6, 20, .inr (.inr (.inr (.inr (va_up fp (nI i).toNatClampNeg (some q13)))))))]) [0, 1] rfl
    have hD := hD.sub (ws' := [(h0, .inr (6, [.ref q1, .ref q3, .ref q5, .ref q7, .ref q10])), (q5, .inl (cA6, 20, .inr (.inr (.inr (.inr (va_up fp (nI i).toNatClampNeg (some q13)))))))]) [0, 1] (by decide) rfl
    refine W.widen (k := 7 + 2 * (i + 1)) (n := 112 + 35 * (i + 1)) (by omega) (by omega) ?_
    exact ih ((va_up fp (nI i).toNatClampNeg (some q13))) _ _ _ ⟨hP, hD, hS, lv_sub hl [0, 1] rfl⟩

set_option maxHeartbeats 1000000 in
set_option maxRecDepth 100000 in
/-- Ratio(): not known -/
theorem c_X4_init (l : Launch) (D : va_G) (h0 sz : Nat) : Met l yX4_init wsX4_init ({ frames := 3, cells := 11, slots := 242, locals := 53 }) (va_Pc [.ref h0] (hm_P D [(h0, .inr (4, [.null, .null, .int 0, .null, .null, .null]))] [] sz)) (va_Qv (fun _ : Unit => True) (fun _ t => ∃ (q1 : Nat) (q4 : Nat) (q7 : Nat) (q10 : Nat) (q13 : Nat), hm_B D (va_A [(h0, .inr (4, [.null, .null, .int 0, .null, .null, .null]))] sz) [(h0, .inr (4, [.ref q1, .ref q4, .int 0, .ref q7, .ref q10, .ref q13]))] [] t) (va_A [(h0, .inr (4, [.null, .null, .int 0, .null, .null, .null]))] sz)) 11 242 (va_A [(h0, .inr (4, [.null, .null, .int 0, .null, .null, .null]))] sz) := by
  refine Met.ofW (cc := cX4_init) (maxL := 1) (ret := none) (by decide) rfl ?_
  intro p e s m args below meth c s₁ B hml hv
  obtain ⟨rfl, hsz, hP, hK, hD0, hE⟩ := hv
  have hx := B.exec
  have hb := B.bytes
  have hr := B.returns
  have hts := atoms_spec (ws := wsX4_init) B.pre
  have hown : s.vm.findClass RX4 = some m.cls := findClass_of_methodNamed B.named
  have hlocks := B.notSynchronized
  have hin : meth.name = "<init>" := (name_of_methodNamed B.named B.method).1
  subst hsz
  have hD := hD0.self (sz := s.heap.size)
  generalize hAe : va_A [(h0, .inr (4, [.null, .null, .int 0, .null, .null, .null]))] s.heap.size = A at hD ⊢
  have hA : ∀ q : Nat, s.heap.size ≤ q → A q := fun q h => by rw [← hAe]; exact Or.inr h
  have hS : va_S A s.heap s.heap [] := va_S.rf
  have hP : va_P D vwCl [(h0, .inr (4, [.null, .null, .int 0, .null, .null, .null]))] s.heap := hP
  have hl := lv_entry ([.ref h0]) (n := 1) (Nat.le_of_ble_eq_true rfl)
  rw [lg_entry_eq]
  generalize (lg_sl ([.ref h0]) ++ List.replicate (1 - (lg_sl ([.ref h0])).length) Slot.unset).toArray = ls at hl ⊢
  have hl : lv_has ls 1 [(0, .ref h0)] := hl
  refine lv_aload_n hx hb dX4_init_0 rfl (lv_at hl 0 rfl) ?_
  refine W.objInit hx hb hown (hts (.methodLink RX4 3 objectInit) (by decide +kernel)) (hts (.instanceMethod objectInit) (by decide +kernel)) (hts _ (List.mem_of_getElem? (i := 3) rfl)) rfl (by rw [hml]; exact hl.1) rfl dX4_init_1 (Nat.le_of_ble_eq_true rfl) (Nat.le_of_ble_eq_true rfl) ?_
  refine W.eq (g2 := F0 m 4 ls []) rfl ?_
  refine lv_aload_n hx hb dX4_init_4 rfl (lv_at hl 0 rfl) ?_
  refine va_new (ci := 0) (fs := [.null, .int 0, .int 0]) (C := RX0) (T := TX0) (N := 3) hx hb hts (by decide +kernel) tyX0 tyX0_ok hown (hts (.classLink RX4 9 RX0) (by decide +kernel)) (hts (.instantiable RX0 3) (by decide +kernel)) (hts (.initialized RX0) (by decide +kernel)) hK hP hD hS hA rfl (fun j hj => by rcases (show j = 0 ∨ j = 1 ∨ j = 2 by omega) with rfl | rfl | rfl <;> rfl) (Nat.le_of_ble_eq_true rfl) (Nat.le_of_ble_eq_true rfl) dX4_init_5 (fun q1 H hP hD hS => ?_)
  have hP : va_P D vwCl [(h0, .inr (4, [.null, .null, .int 0, .null, .null, .null])), (q1, .inr (0, [.null, .int 0, .int 0]))] H := hP
  have hD : va_D A [(h0, .inr (4, [.null, .null, .int 0, .null, .null, .null])), (q1, .inr (0, [.null, .int 0, .int 0]))] := hD
  refine W.widen (k := 1) (n := 3) (by omega) (by omega) ?_
  refine lv_dup hx hb dX4_init_8 rfl ?_
  refine lv_bipush (v := (32)) hx hb dX4_init_9 (by decide) ?_
  have hPc := hP.sub (ws' := [(q1, .inr (0, [.null, .int 0, .int 0]))]) [1] rfl
  have hDc := hD.sub (ws' := [(q1, .inr (0, [.null, .int 0, .int 0]))]) [1] (by decide) rfl
  have hKc := hK.sub (tys' := []) [] rfl
  have hFc := va_free (wc := [(q1, .inr (0, [.null, .int 0, .int 0]))]) hD hS hA [1] rfl
  refine va_callv (va_runI (As := [.int 32]) (rest := [.ref q1, .ref h0]) ⟨hx, hb, hml, hown, hts⟩ (c_X0_init_32 l D q1 _) (cwI 1 hts gX4_init_X0_init rfl rfl rfl (hts (.initialized RX0) (by decide +kernel)) (hts (.methodLink RX4 11 yX0_init) (by decide +kernel)) (hts (.instanceMethod yX0_init) (by decide +kernel)) rfl (by decide +kernel) ⟨Nat.le_of_ble_eq_true rfl, Nat.le_of_ble_eq_true rfl⟩) ⟨hm_blind, hm_pre hPc hKc hDc hE⟩ rfl rfl hl.1 rfl (lv_room (Nat.le_of_ble_eq_true rfl)) dX4_init_11 ⟨(Nat.le_of_ble_eq_true rfl), (Nat.le_of_ble_eq_true rfl)⟩) hS (fun q _ h => hFc q h) hFc (fun u t H1 locs ht hvm hw hB hz1 hk1 hS => ?_)
  obtain ⟨q2, cA3, hP1, hK1, hD1⟩ := hB
  rw [ht] at hP1
  have hK1 := va_K.moved hvm.symm hK1
  obtain ⟨hP, hD⟩ := va_join (wr := [(h0, .inr (4, [.null, .null, .int 0, .null, .null, .null]))]) (w1 := [(q1, .inr (0, [.ref q2, .int 0, .int 0])), (q2, .inl (cA3, 32, .inl (fun _ => 0)))]) hP hD [1] [0] rfl rfl (by decide) (by decide) hk1 hFc hP1 hD1
  have hK := (hK.sub (tys' := []) [] rfl).app hK1
  generalize H1 = H at hP hS ⊢
  have hP : va_P D vwCl [(h0, .inr (4, [.null, .null, .int 0, .null, .null, .null])), (q1, .inr (0, [.ref q2, .int 0, .int 0])), (q2, .inl (cA3, 32, .inl (fun _ => 0)))] H := hP
  have hD : va_D A [(h0, .inr (4, [.null, .null, .int 0, .null, .null, .null])), (q1, .inr (0, [.ref q2, .int 0, .int 0])), (q2, .inl (cA3, 32, .inl (fun _ => 0)))] := hD
  have hK : va_K D vwCl [(cA3, .int)] s := hK
  refine W.widen (k := 2) (n := 35) (by omega) (by omega) ?_
  refine va_putF (D := D) (ci := 4) (v := .ref q1) (ty := .object "HiddenMoves$Big") (C := RX4) (T := TX4) (N := 6) hx hb hts (by decide +kernel) tyX4 tyX4_ok nmX4 hown hK hP hD hS 0 rfl rfl 0 (by decide) (hts (.fieldLink RX4 14 "HiddenMoves$Ratio" "top" "LHiddenMoves$Big;") (by decide +kernel)) (fun _ h9 => h9) rfl hin rfl (by decide +kernel) rfl rfl (Nat.le_of_ble_eq_true rfl) dX4_init_14 (fun H locs hP hD hS => ?_)
  have hP : va_P D vwCl [(h0, .inr (4, [.ref q1, .null, .int 0, .null, .null, .null])), (q1, .inr (0, [.ref q2, .int 0, .int 0])), (q2, .inl (cA3, 32, .inl (fun _ => 0)))] H := hP
  have hD : va_D A [(h0, .inr (4, [.ref q1, .null, .int 0, .null, .null, .null])), (q1, .inr (0, [.ref q2, .int 0, .int 0])), (q2, .inl (cA3, 32, .inl (fun _ => 0)))] := hD
  have hP := hP.sub (ws' := [(h0, .inr (4, [.ref q1, .null, .int 0, .null, .null, .null]))]) [0] rfl
  have hD := hD.sub (ws' := [(h0, .inr (4, [.ref q1, .null, .int 0, .null, .null, .null]))]) [0] (by decide) rfl
  have hK := hK.sub (tys' := []) [] rfl
  refine lv_aload_n hx hb dX4_init_17 rfl (lv_at hl 0 rfl) ?_
  refine va_new (ci := 0) (fs := [.null, .int 0, .int 0]) (C := RX0) (T := TX0) (N := 3) hx hb hts (by decide +kernel) tyX0 tyX0_ok hown (hts (.classLink RX4 9 RX0) (by decide +kernel)) (hts (.instantiable RX0 3) (by decide +kernel)) (hts (.initialized RX0) (by decide +kernel)) hK hP hD hS hA rfl (fun j hj => by rcases (show j = 0 ∨ j = 1 ∨ j = 2 by omega) with rfl | rfl | rfl <;> rfl) (Nat.le_of_ble_eq_true rfl) (Nat.le_of_ble_eq_true rfl) dX4_init_18 (fun q4 H hP hD hS => ?_)
  have hP : va_P D vwCl [(h0, .inr (4, [.ref q1, .null, .int 0, .null, .null, .null])), (q4, .inr (0, [.null, .int 0, .int 0]))] H := hP
  have hD : va_D A [(h0, .inr (4, [.ref q1, .null, .int 0, .null, .null, .null])), (q4, .inr (0, [.null, .int 0, .int 0]))] := hD
  refine W.widen (k := 3) (n := 38) (by omega) (by omega) ?_
  refine lv_dup hx hb dX4_init_21 rfl ?_
  refine lv_bipush (v := (32)) hx hb dX4_init_22 (by decide) ?_
  have hPc := hP.sub (ws' := [(q4, .inr (0, [.null, .int 0, .int 0]))]) [1] rfl
  have hDc := hD.sub (ws' := [(q4, .inr (0, [.null, .int 0, .int 0]))]) [1] (by decide) rfl
  have hKc := hK.sub (tys' := []) [] rfl
  have hFc := va_free (wc := [(q4, .inr (0, [.null, .int 0, .int 0]))]) hD hS hA [1] rfl
  refine va_callv (va_runI (As := [.int 32]) (rest := [.ref q4, .ref h0]) ⟨hx, hb, hml, hown, hts⟩ (c_X0_init_32 l D q4 _) (cwI 1 hts gX4_init_X0_init rfl rfl rfl (hts (.initialized RX0) (by decide +kernel)) (hts (.methodLink RX4 11 yX0_init) (by decide +kernel)) (hts (.instanceMethod yX0_init) (by decide +kernel)) rfl (by decide +kernel) ⟨Nat.le_of_ble_eq_true rfl, Nat.le_of_ble_eq_true rfl⟩) ⟨hm_blind, hm_pre hPc hKc hDc hE⟩ rfl rfl hl.1 rfl (lv_room (Nat.le_of_ble_eq_true rfl)) dX4_init_24 ⟨(Nat.le_of_ble_eq_true rfl), (Nat.le_of_ble_eq_true rfl)⟩) hS (fun q _ h => hFc q h) hFc (fun u t H1 locs ht hvm hw hB hz1 hk1 hS => ?_)
  obtain ⟨q5, cA6, hP1, hK1, hD1⟩ := hB
  rw [ht] at hP1
  have hK1 := va_K.moved hvm.symm hK1
  obtain ⟨hP, hD⟩ := va_join (wr := [(h0, .inr (4, [.ref q1, .null, .int 0, .null, .null, .null]))]) (w1 := [(q4, .inr (0, [.ref q5, .int 0, .int 0])), (q5, .inl (cA6, 32, .inl (fun _ => 0)))]) hP hD [1] [0] rfl rfl (by decide) (by decide) hk1 hFc hP1 hD1
  have hK := (hK.sub (tys' := []) [] rfl).app hK1
  generalize H1 = H at hP hS ⊢
  have hP : va_P D vwCl [(h0, .inr (4, [.ref q1, .null, .int 0, .null, .null, .null])), (q4, .inr (0, [.ref q5, .int 0, .int 0])), (q5, .inl (cA6, 32, .inl (fun _ => 0)))] H := hP
  have hD : va_D A [(h0, .inr (4, [.ref q1, .null, .int 0, .null, .null, .null])), (q4, .inr (0, [.ref q5, .int 0, .int 0])), (q5, .inl (cA6, 32, .inl (fun _ => 0)))] := hD
  have hK : va_K D vwCl [(cA6, .int)] s := hK
  refine W.widen (k := 4) (n := 70) (by omega) (by omega) ?_
  refine va_putF (D := D) (ci := 4) (v := .ref q4) (ty := .object "HiddenMoves$Big") (C := RX4) (T := TX4) (N := 6) hx hb hts (by decide +kernel) tyX4 tyX4_ok nmX4 hown hK hP hD hS 0 rfl rfl 1 (by decide) (hts (.fieldLink RX4 20 "HiddenMoves$Ratio" "bottom" "LHiddenMoves$Big;") (by decide +kernel)) (fun _ h9 => h9) rfl hin rfl (by decide +kernel) rfl rfl (Nat.le_of_ble_eq_true rfl) dX4_init_27 (fun H locs hP hD hS => ?_)
  have hP : va_P D vwCl [(h0, .inr (4, [.ref q1, .ref q4, .int 0, .null, .null, .null])), (q4, .inr (0, [.ref q5, .int 0, .int 0])), (q5, .inl (cA6, 32, .inl (fun _ => 0)))] H := hP
  have hD : va_D A [(h0, .inr (4, [.ref q1, .ref q4, .int 0, .null, .null, .null])), (q4, .inr (0, [.ref q5, .int 0, .int 0])), (q5, .inl (cA6, 32, .inl (fun _ => 0)))] := hD
  have hP := hP.sub (ws' := [(h0, .inr (4, [.ref q1, .ref q4, .int 0, .null, .null, .null]))]) [0] rfl
  have hD := hD.sub (ws' := [(h0, .inr (4, [.ref q1, .ref q4, .int 0, .null, .null, .null]))]) [0] (by decide) rfl
  have hK := hK.sub (tys' := []) [] rfl
  refine lv_aload_n hx hb dX4_init_30 rfl (lv_at hl 0 rfl) ?_
  refine lv_iconst (v := 0) hx hb dX4_init_31 (by decide) ?_
  refine va_put (D := D) (ci := 4) (v := .int 0) (ty := .boolean) (C := RX4) (T := TX4) (N := 6) hx hb hts (by decide +kernel) tyX4 tyX4_ok nmX4 hown hK hP hD hS 0 rfl rfl 2 (by decide) (hts (.fieldLink RX4 23 "HiddenMoves$Ratio" "known" "Z") (by decide +kernel)) (fun _ h9 => h9) rfl (by decide +kernel) rfl rfl (Nat.le_of_ble_eq_true rfl) dX4_init_32 (fun H locs hP hD hS => ?_)
  have hP : va_P D vwCl [(h0, .inr (4, [.ref q1, .ref q4, .int 0, .null, .null, .null]))] H := hP
  have hD : va_D A [(h0, .inr (4, [.ref q1, .ref q4, .int 0, .null, .null, .null]))] := hD
  refine lv_aload_n hx hb dX4_init_35 rfl (lv_at hl 0 rfl) ?_
  refine va_new (ci := 0) (fs := [.null, .int 0, .int 0]) (C := RX0) (T := TX0) (N := 3) hx hb hts (by decide +kernel) tyX0 tyX0_ok hown (hts (.classLink RX4 9 RX0) (by decide +kernel)) (hts (.instantiable RX0 3) (by decide +kernel)) (hts (.initialized RX0) (by decide +kernel)) hK hP hD hS hA rfl (fun j hj => by rcases (show j = 0 ∨ j = 1 ∨ j = 2 by omega) with rfl | rfl | rfl <;> rfl) (Nat.le_of_ble_eq_true rfl) (Nat.le_of_ble_eq_true rfl) dX4_init_36 (fun q7 H hP hD hS => ?_)
  have hP : va_P D vwCl [(h0, .inr (4, [.ref q1, .ref q4, .int 0, .null, .null, .null])), (q7, .inr (0, [.null, .int 0, .int 0]))] H := hP
  have hD : va_D A [(h0, .inr (4, [.ref q1, .ref q4, .int 0, .null, .null, .null])), (q7, .inr (0, [.null, .int 0, .int 0]))] := hD
  refine W.widen (k := 5) (n := 73) (by omega) (by omega) ?_
  refine lv_dup hx hb dX4_init_39 rfl ?_
  refine lv_bipush (v := (64)) hx hb dX4_init_40 (by decide) ?_
  have hPc := hP.sub (ws' := [(q7, .inr (0, [.null, .int 0, .int 0]))]) [1] rfl
  have hDc := hD.sub (ws' := [(q7, .inr (0, [.null, .int 0, .int 0]))]) [1] (by decide) rfl
  have hKc := hK.sub (tys' := []) [] rfl
  have hFc := va_free (wc := [(q7, .inr (0, [.null, .int 0, .int 0]))]) hD hS hA [1] rfl
  refine va_callv (va_runI (As := [.int 64]) (rest := [.ref q7, .ref h0]) ⟨hx, hb, hml, hown, hts⟩ (c_X0_init_64 l D q7 _) (cwI 1 hts gX4_init_X0_init rfl rfl rfl (hts (.initialized RX0) (by decide +kernel)) (hts (.methodLink RX4 11 yX0_init) (by decide +kernel)) (hts (.instanceMethod yX0_init) (by decide +kernel)) rfl (by decide +kernel) ⟨Nat.le_of_ble_eq_true rfl, Nat.le_of_ble_eq_true rfl⟩) ⟨hm_blind, hm_pre hPc hKc hDc hE⟩ rfl rfl hl.1 rfl (lv_room (Nat.le_of_ble_eq_true rfl)) dX4_init_42 ⟨(Nat.le_of_ble_eq_true rfl), (Nat.le_of_ble_eq_true rfl)⟩) hS (fun q _ h => hFc q h) hFc (fun u t H1 locs ht hvm hw hB hz1 hk1 hS => ?_)
  obtain ⟨q8, cA9, hP1, hK1, hD1⟩ := hB
  rw [ht] at hP1
  have hK1 := va_K.moved hvm.symm hK1
  obtain ⟨hP, hD⟩ := va_join (wr := [(h0, .inr (4, [.ref q1, .ref q4, .int 0, .null, .null, .null]))]) (w1 := [(q7, .inr (0, [.ref q8, .int 0, .int 0])), (q8, .inl (cA9, 64, .inl (fun _ => 0)))]) hP hD [1] [0] rfl rfl (by decide) (by decide) hk1 hFc hP1 hD1
  have hK := (hK.sub (tys' := []) [] rfl).app hK1
  generalize H1 = H at hP hS ⊢
  have hP : va_P D vwCl [(h0, .inr (4, [.ref q1, .ref q4, .int 0, .null, .null, .null])), (q7, .inr (0, [.ref q8, .int 0, .int 0])), (q8, .inl (cA9, 64, .inl (fun _ => 0)))] H := hP
  have hD : va_D A [(h0, .inr (4, [.ref q1, .ref q4, .int 0, .null, .null, .null])), (q7, .inr (0, [.ref q8, .int 0, .int 0])), (q8, .inl (cA9, 64, .inl (fun _ => 0)))] := hD
  have hK : va_K D vwCl [(cA9, .int)] s := hK
  refine W.widen (k := 6) (n := 137) (by omega) (by omega) ?_
  refine va_putF (D := D) (ci := 4) (v := .ref q7) (ty := .object "HiddenMoves$Big") (C := RX4) (T := TX4) (N := 6) hx hb hts (by decide +kernel) tyX4 tyX4_ok nmX4 hown hK hP hD hS 0 rfl rfl 3 (by decide) (hts (.fieldLink RX4 27 "HiddenMoves$Ratio" "first" "LHiddenMoves$Big;") (by decide +kernel)) (fun _ h9 => h9) rfl hin rfl (by decide +kernel) rfl rfl (Nat.le_of_ble_eq_true rfl) dX4_init_45 (fun H locs hP hD hS => ?_)
  have hP : va_P D vwCl [(h0, .inr (4, [.ref q1, .ref q4, .int 0, .ref q7, .null, .null])), (q7, .inr (0, [.ref q8, .int 0, .int 0])), (q8, .inl (cA9, 64, .inl (fun _ => 0)))] H := hP
  have hD : va_D A [(h0, .inr (4, [.ref q1, .ref q4, .int 0, .ref q7, .null, .null])), (q7, .inr (0, [.ref q8, .int 0, .int 0])), (q8, .inl (cA9, 64, .inl (fun _ => 0)))] := hD
  have hP := hP.sub (ws' := [(h0, .inr (4, [.ref q1, .ref q4, .int 0, .ref q7, .null, .null]))]) [0] rfl
  have hD := hD.sub (ws' := [(h0, .inr (4, [.ref q1, .ref q4, .int 0, .ref q7, .null, .null]))]) [0] (by decide) rfl
  have hK := hK.sub (tys' := []) [] rfl
  refine lv_aload_n hx hb dX4_init_48 rfl (lv_at hl 0 rfl) ?_
  refine va_new (ci := 0) (fs := [.null, .int 0, .int 0]) (C := RX0) (T := TX0) (N := 3) hx hb hts (by decide +kernel) tyX0 tyX0_ok hown (hts (.classLink RX4 9 RX0) (by decide +kernel)) (hts (.instantiable RX0 3) (by decide +kernel)) (hts (.initialized RX0) (by decide +kernel)) hK hP hD hS hA rfl (fun j hj => by rcases (show j = 0 ∨ j = 1 ∨ j = 2 by omega) with rfl | rfl | rfl <;> rfl) (Nat.le_of_ble_eq_true rfl) (Nat.le_of_ble_eq_true rfl) dX4_init_49 (fun q10 H hP hD hS => ?_)
  have hP : va_P D vwCl [(h0, .inr (4, [.ref q1, .ref q4, .int 0, .ref q7, .null, .null])), (q10, .inr (0, [.null, .int 0, .int 0]))] H := hP
  have hD : va_D A [(h0, .inr (4, [.ref q1, .ref q4, .int 0, .ref q7, .null, .null])), (q10, .inr (0, [.null, .int 0, .int 0]))] := hD
  refine W.widen (k := 7) (n := 140) (by omega) (by omega) ?_
  refine lv_dup hx hb dX4_init_52 rfl ?_
  refine lv_bipush (v := (64)) hx hb dX4_init_53 (by decide) ?_
  have hPc := hP.sub (ws' := [(q10, .inr (0, [.null, .int 0, .int 0]))]) [1] rfl
  have hDc := hD.sub (ws' := [(q10, .inr (0, [.null, .int 0, .int 0]))]) [1] (by decide) rfl
  have hKc := hK.sub (tys' := []) [] rfl
  have hFc := va_free (wc := [(q10, .inr (0, [.null, .int 0, .int 0]))]) hD hS hA [1] rfl
  refine va_callv (va_runI (As := [.int 64]) (rest := [.ref q10, .ref h0]) ⟨hx, hb, hml, hown, hts⟩ (c_X0_init_64 l D q10 _) (cwI 1 hts gX4_init_X0_init rfl rfl rfl (hts (.initialized RX0) (by decide +kernel)) (hts (.methodLink RX4 11 yX0_init) (by decide +kernel)) (hts (.instanceMethod yX0_init) (by decide +kernel)) rfl (by decide +kernel) ⟨Nat.le_of_ble_eq_true rfl, Nat.le_of_ble_eq_true rfl⟩) ⟨hm_blind, hm_pre hPc hKc hDc hE⟩ rfl rfl hl.1 rfl (lv_room (Nat.le_of_ble_eq_true rfl)) dX4_init_55 ⟨(Nat.le_of_ble_eq_true rfl), (Nat.le_of_ble_eq_true rfl)⟩) hS (fun q _ h => hFc q h) hFc (fun u t H1 locs ht hvm hw hB hz1 hk1 hS => ?_)
  obtain ⟨q11, cA12, hP1, hK1, hD1⟩ := hB
  rw [ht] at hP1
  have hK1 := va_K.moved hvm.symm hK1
  obtain ⟨hP, hD⟩ := va_join (wr := [(h0, .inr (4, [.ref q1, .ref q4, .int 0, .ref q7, .null, .null]))]) (w1 := [(q10, .inr (0, [.ref q11, .int 0, .int 0])), (q11, .inl (cA12, 64, .inl (fun _ => 0)))]) hP hD [1] [0] rfl rfl (by decide) (by decide) hk1 hFc hP1 hD1
  have hK := (hK.sub (tys' := []) [] rfl).app hK1
  generalize H1 = H at hP hS ⊢
  have hP : va_P D vwCl [(h0, .inr (4, [.ref q1, .ref q4, .int 0, .ref q7, .null, .null])), (q10, .inr (0, [.ref q11, .int 0, .int 0])), (q11, .inl (cA12, 64, .inl (fun _ => 0)))] H := hP
  have hD : va_D A [(h0, .inr (4, [.ref q1, .ref q4, .int 0, .ref q7, .null, .null])), (q10, .inr (0, [.ref q11, .int 0, .int 0])), (q11, .inl (cA12, 64, .inl (fun _ => 0)))] := hD
  have hK : va_K D vwCl [(cA12, .int)] s := hK
  refine W.widen (k := 8) (n := 204) (by omega) (by omega) ?_
  refine va_putF (D := D) (ci := 4) (v := .ref q10) (ty := .object "HiddenMoves$Big") (C := RX4) (T := TX4) (N := 6) hx hb hts (by decide +kernel) tyX4 tyX4_ok nmX4 hown hK hP hD hS 0 rfl rfl 4 (by decide) (hts (.fieldLink RX4 30 "HiddenMoves$Ratio" "second" "LHiddenMoves$Big;") (by decide +kernel)) (fun _ h9 => h9) rfl hin rfl (by decide +kernel) rfl rfl (Nat.le_of_ble_eq_true rfl) dX4_init_58 (fun H locs hP hD hS => ?_)
  have hP : va_P D vwCl [(h0, .inr (4, [.ref q1, .ref q4, .int 0, .ref q7, .ref q10, .null])), (q10, .inr (0, [.ref q11, .int 0, .int 0])), (q11, .inl (cA12, 64, .inl (fun _ => 0)))] H := hP
  have hD : va_D A [(h0, .inr (4, [.ref q1, .ref q4, .int 0, .ref q7, .ref q10, .null])), (q10, .inr (0, [.ref q11, .int 0, .int 0])), (q11, .inl (cA12, 64, .inl (fun _ => 0)))] := hD
  have hP := hP.sub (ws' := [(h0, .inr (4, [.ref q1, .ref q4, .int 0, .ref q7, .ref q10, .null]))]) [0] rfl
  have hD := hD.sub (ws' := [(h0, .inr (4, [.ref q1, .ref q4, .int 0, .ref q7, .ref q10, .null]))]) [0] (by decide) rfl
  have hK := hK.sub (tys' := []) [] rfl
  refine lv_aload_n hx hb dX4_init_61 rfl (lv_at hl 0 rfl) ?_
  refine va_new (ci := 1) (fs := [.null, .int 0, .int 0]) (C := RX1) (T := TX1) (N := 3) hx hb hts (by decide +kernel) tyX1 tyX1_ok hown (hts (.classLink RX4 33 RX1) (by decide +kernel)) (hts (.instantiable RX1 3) (by decide +kernel)) (hts (.initialized RX1) (by decide +kernel)) hK hP hD hS hA rfl (fun j hj => by rcases (show j = 0 ∨ j = 1 ∨ j = 2 by omega) with rfl | rfl | rfl <;> rfl) (Nat.le_of_ble_eq_true rfl) (Nat.le_of_ble_eq_true rfl) dX4_init_62 (fun q13 H hP hD hS => ?_)
  have hP : va_P D vwCl [(h0, .inr (4, [.ref q1, .ref q4, .int 0, .ref q7, .ref q10, .null])), (q13, .inr (1, [.null, .int 0, .int 0]))] H := hP
  have hD : va_D A [(h0, .inr (4, [.ref q1, .ref q4, .int 0, .ref q7, .ref q10, .null])), (q13, .inr (1, [.null, .int 0, .int 0]))] := hD
  refine W.widen (k := 9) (n := 207) (by omega) (by omega) ?_
  refine lv_dup hx hb dX4_init_65 rfl ?_
  have hPc := hP.sub (ws' := [(q13, .inr (1, [.null, .int 0, .int 0]))]) [1] rfl
  have hDc := hD.sub (ws' := [(q13, .inr (1, [.null, .int 0, .int 0]))]) [1] (by decide) rfl
  have hKc := hK.sub (tys' := []) [] rfl
  have hFc := va_free (wc := [(q13, .inr (1, [.null, .int 0, .int 0]))]) hD hS hA [1] rfl
  refine va_callv (va_runIN (As := []) (rest := [.ref q13, .ref h0]) ⟨hx, hb, hml, hown, hts⟩ (c_X1_init l D q13 _) ⟨va_cnB 0 hts gX4_init_X1_init_n35 rfl rfl rfl (hE.nest_RX4_35) (hts (.initialized RX1) (by decide +kernel)) (by decide +kernel) ⟨Nat.le_of_ble_eq_true rfl, Nat.le_of_ble_eq_true rfl⟩, rfl, (hts (.instanceMethod yX1_init) (by decide +kernel))⟩ ⟨hm_blind, hm_pre hPc hKc hDc hE⟩ rfl rfl hl.1 rfl (lv_room (Nat.le_of_ble_eq_true rfl)) dX4_init_66 ⟨(Nat.le_of_ble_eq_true rfl), (Nat.le_of_ble_eq_true rfl)⟩) hS (fun q _ h => hFc q h) hFc (fun u t H1 locs ht hvm hw hB hz1 hk1 hS => ?_)
  obtain ⟨q14, hP1, hK1, hD1⟩ := hB
  rw [ht] at hP1
  have hK1 := va_K.moved hvm.symm hK1
  obtain ⟨hP, hD⟩ := va_join (wr := [(h0, .inr (4, [.ref q1, .ref q4, .int 0, .ref q7, .ref q10, .null]))]) (w1 := [(q13, .inr (1, [.ref q14, .int 0, .int 1]))]) hP hD [1] [0] rfl rfl (by decide) (by decide) hk1 hFc hP1 hD1
  have hK := (hK.sub (tys' := []) [] rfl).app hK1
  generalize H1 = H at hP hS ⊢
  have hP : va_P D vwCl [(h0, .inr (4, [.ref q1, .ref q4, .int 0, .ref q7, .ref q10, .null])), (q13, .inr (1, [.ref q14, .int 0, .int 1]))] H := hP
  have hD : va_D A [(h0, .inr (4, [.ref q1, .ref q4, .int 0, .ref q7, .ref q10, .null])), (q13, .inr (1, [.ref q14, .int 0, .int 1]))] := hD
  have hK : va_K D vwCl [] s := hK
  refine W.widen (k := 11) (n := 242) (by omega) (by omega) ?_
  refine va_putF (D := D) (ci := 4) (v := .ref q13) (ty := .object "HiddenMoves$Divider") (C := RX4) (T := TX4) (N := 6) hx hb hts (by decide +kernel) tyX4 tyX4_ok nmX4 hown hK hP hD hS 0 rfl rfl 5 (by decide) (hts (.fieldLink RX4 36 "HiddenMoves$Ratio" "divider" "LHiddenMoves$Divider;") (by decide +kernel)) (fun _ h9 => h9) rfl hin rfl (by decide +kernel) rfl rfl (Nat.le_of_ble_eq_true rfl) dX4_init_69 (fun H locs hP hD hS => ?_)
  have hP : va_P D vwCl [(h0, .inr (4, [.ref q1, .ref q4, .int 0, .ref q7, .ref q10, .ref q13])), (q13, .inr (1, [.ref q14, .int 0, .int 1]))] H := hP
  have hD : va_D A [(h0, .inr (4, [.ref q1, .ref q4, .int 0, .ref q7, .ref q10, .ref q13])), (q13, .inr (1, [.ref q14, .int 0, .int 1]))] := hD
  have hP := hP.sub (ws' := [(h0, .inr (4, [.ref q1, .ref q4, .int 0, .ref q7, .ref q10, .ref q13]))]) [0] rfl
  have hD := hD.sub (ws' := [(h0, .inr (4, [.ref q1, .ref q4, .int 0, .ref q7, .ref q10, .ref q13]))]) [0] (by decide) rfl
  have hK := hK.sub (tys' := []) [] rfl
  have hP9 := hP.sub (ws' := [(h0, .inr (4, [.ref q1, .ref q4, .int 0, .ref q7, .ref q10, .ref q13]))]) [0] rfl
  have hD9 := hD.sub (ws' := [(h0, .inr (4, [.ref q1, .ref q4, .int 0, .ref q7, .ref q10, .ref q13]))]) [0] (by decide) rfl
  have hK9 := hK.sub (tys' := []) [] rfl
  refine W.widen (k := 11) (n := 242) (by omega) (by omega) ?_
  exact W.vret hx hb hr (fun t ht hW => ⟨⟨(), rfl, trivial, q1, q4, q7, q10, q13, by rw [ht]; exact hP9, va_K.moved hW.alike hK9, hD9⟩, hS.F ht⟩) hS.2.2 dX4_init_72

set_option maxHeartbeats 1000000 in
set_option maxRecDepth 100000 in
/-- Solver() -/
theorem c_X8_init (l : Launch) (D : va_G) (h0 sz : Nat) : Met l yX8_init wsX8_init ({ frames := 3, cells := 1813, slots := 32677, locals := 53 }) (va_Pc [.ref h0] (hm_P D [(h0, .inr (8, [.null, .null, .null, .null, .int 0, .int 0, .int 0, .int 0, .long 0, .null, .null, .null, .null]))] [] sz)) (va_Qv (fun _ : Unit => True) (fun _ t => ∃ (q1 : Nat) (q3 : Nat) (q5 : Nat) (q7 : Nat) (q9 : Nat) (q12 : Nat) (q15 : Nat) (q18 : Nat), hm_B D (va_A [(h0, .inr (8, [.null, .null, .null, .null, .int 0, .int 0, .int 0, .int 0, .long 0, .null, .null, .null, .null]))] sz) [(h0, .inr (8, [.ref q1, .ref q3, .ref q5, .ref q7, .int 0, .int 0, .int 1, .int 1, .long 0, .ref q9, .ref q12, .ref q15, .ref q18]))] [] t) (va_A [(h0, .inr (8, [.null, .null, .null, .null, .int 0, .int 0, .int 0, .int 0, .long 0, .null, .null, .null, .null]))] sz)) 1813 32677 (va_A [(h0, .inr (8, [.null, .null, .null, .null, .int 0, .int 0, .int 0, .int 0, .long 0, .null, .null, .null, .null]))] sz) := by
  refine Met.ofW (cc := cX8_init) (maxL := 2) (ret := none) (by decide) rfl ?_
  intro p e s m args below meth c s₁ B hml hv
  obtain ⟨rfl, hsz, hP, hK, hD0, hE⟩ := hv
  have hx := B.exec
  have hb := B.bytes
  have hr := B.returns
  have hts := atoms_spec (ws := wsX8_init) B.pre
  have hown : s.vm.findClass RX8 = some m.cls := findClass_of_methodNamed B.named
  have hlocks := B.notSynchronized
  have hin : meth.name = "<init>" := (name_of_methodNamed B.named B.method).1
  subst hsz
  have hD := hD0.self (sz := s.heap.size)
  generalize hAe : va_A [(h0, .inr (8, [.null, .null, .null, .null, .int 0, .int 0, .int 0, .int 0, .long 0, .null, .null, .null, .null]))] s.heap.size = A at hD ⊢
  have hA : ∀ q : Nat, s.heap.size ≤ q → A q := fun q h => by rw [← hAe]; exact Or.inr h
  have hS : va_S A s.heap s.heap [] := va_S.rf
  have hP : va_P D vwCl [(h0, .inr (8, [.null, .null, .null, .null, .int 0, .int 0, .int 0, .int 0, .long 0, .null, .null, .null, .null]))] s.heap := hP
  have hl := lv_entry ([.ref h0]) (n := 2) (Nat.le_of_ble_eq_true rfl)
  rw [lg_entry_eq]
  generalize (lg_sl ([.ref h0]) ++ List.replicate (2 - (lg_sl ([.ref h0])).length) Slot.unset).toArray = ls at hl ⊢
  have hl : lv_has ls 2 [(0, .ref h0)] := hl
  refine lv_aload_n hx hb dX8_init_0 rfl (lv_at hl 0 rfl) ?_
  refine W.objInit hx hb hown (hts (.methodLink RX8 3 objectInit) (by decide +kernel)) (hts (.instanceMethod objectInit) (by decide +kernel)) (hts _ (List.mem_of_getElem? (i := 3) rfl)) rfl (by rw [hml]; exact hl.1) rfl dX8_init_1 (Nat.le_of_ble_eq_true rfl) (Nat.le_of_ble_eq_true rfl) ?_
  refine W.eq (g2 := F0 m 4 ls []) rfl ?_
  refine lv_aload_n hx hb dX8_init_4 rfl (lv_at hl 0 rfl) ?_
  refine lv_sipush (v := (900)) hx hb dX8_init_5 (by decide) ?_
  refine va_newq (N' := 900) hx hb hown (hts (.classLink RX8 11 RX0) (by decide +kernel)) hE.ao_RX0 hK hP hD hS hA (by decide) (by decide) (by decide) (Nat.le_of_ble_eq_true rfl) (Nat.le_of_ble_eq_true rfl) dX8_init_8 (fun q1 cA2 H hK hP hD hS => ?_)
  have hP : va_P D vwCl [(h0, .inr (8, [.null, .null, .null, .null, .int 0, .int 0, .int 0, .int 0, .long 0, .null, .null, .null, .null])), (q1, .inl (cA2, 900, .inr (.inr (.inr (.inr (fun _ => none))))))] H := hP
  have hD : va_D A [(h0, .inr (8, [.null, .null, .null, .null, .int 0, .int 0, .int 0, .int 0, .long 0, .null, .null, .null, .null])), (q1, .inl (cA2, 900, .inr (.inr (.inr (.inr (fun _ => none))))))] := hD
  have hK : va_K D vwCl [(cA2, .object RX0)] s := hK
  refine W.widen (k := 1) (n := 900) (by omega) (by omega) ?_
  refine va_putF (D := D) (ci := 8) (v := .ref q1) (ty := .array (.object "HiddenMoves$Big")) (C := RX8) (T := TX8) (N := 13) hx hb hts (by decide +kernel) tyX8 tyX8_ok nmX8 hown hK hP hD hS 0 rfl rfl 0 (by decide) (hts (.fieldLink RX8 13 "HiddenMoves$Solver" "cells" "[LHiddenMoves$Big;") (by decide +kernel)) (fun _ h9 => h9) rfl hin rfl (by decide +kernel) rfl rfl (Nat.le_of_ble_eq_true rfl) dX8_init_11 (fun H locs hP hD hS => ?_)
  have hP : va_P D vwCl [(h0, .inr (8, [.ref q1, .null, .null, .null, .int 0, .int 0, .int 0, .int 0, .long 0, .null, .null, .null, .null])), (q1, .inl (cA2, 900, .inr (.inr (.inr (.inr (fun _ => none))))))] H := hP
  have hD : va_D A [(h0, .inr (8, [.ref q1, .null, .null, .null, .int 0, .int 0, .int 0, .int 0, .long 0, .null, .null, .null, .null])), (q1, .inl (cA2, 900, .inr (.inr (.inr (.inr (fun _ => none))))))] := hD
  refine lv_aload_n hx hb dX8_init_14 rfl (lv_at hl 0 rfl) ?_
  refine lv_bipush (v := (30)) hx hb dX8_init_15 (by decide) ?_
  refine va_newa (atype := .int) (ty := .int) (N' := 30) (a0 := (30, .inl (fun _ => 0))) hx hb (hts (.arrayClass .int) (by decide +kernel)) rfl hK hP hD hS hA (fun cA => vp_cell_i cA 30 (fun _ => 0)) (by decide) (by decide) (by decide) (Nat.le_of_ble_eq_true rfl) (Nat.le_of_ble_eq_true rfl) dX8_init_17 (fun q3 cA4 H hK hP hD hS => ?_)
  have hP : va_P D vwCl [(h0, .inr (8, [.ref q1, .null, .null, .null, .int 0, .int 0, .int 0, .int 0, .long 0, .null, .null, .null, .null])), (q1, .inl (cA2, 900, .inr (.inr (.inr (.inr (fun _ => none)))))), (q3, .inl (cA4, 30, .inl (fun _ => 0)))] H := hP
  have hD : va_D A [(h0, .inr (8, [.ref q1, .null, .null, .null, .int 0, .int 0, .int 0, .int 0, .long 0, .null, .null, .null, .null])), (q1, .inl (cA2, 900, .inr (.inr (.inr (.inr (fun _ => none)))))), (q3, .inl (cA4, 30, .inl (fun _ => 0)))] := hD
  have hK : va_K D vwCl [(cA2, .object RX0), (cA4, .int)] s := hK
  refine W.widen (k := 2) (n := 930) (by omega) (by omega) ?_
  refine va_putF (D := D) (ci := 8) (v := .ref q3) (ty := .array .int) (C := RX8) (T := TX8) (N := 13) hx hb hts (by decide +kernel) tyX8 tyX8_ok nmX8 hown hK hP hD hS 0 rfl rfl 1 (by decide) (hts (.fieldLink RX8 17 "HiddenMoves$Solver" "rowUnknowns" "[I") (by decide +kernel)) (fun _ h9 => h9) rfl hin rfl (by decide +kernel) rfl rfl (Nat.le_of_ble_eq_true rfl) dX8_init_19 (fun H locs hP hD hS => ?_)
  have hP : va_P D vwCl [(h0, .inr (8, [.ref q1, .ref q3, .null, .null, .int 0, .int 0, .int 0, .int 0, .long 0, .null, .null, .null, .null])), (q1, .inl (cA2, 900, .inr (.inr (.inr (.inr (fun _ => none)))))), (q3, .inl (cA4, 30, .inl (fun _ => 0)))] H := hP
  have hD : va_D A [(h0, .inr (8, [.ref q1, .ref q3, .null, .null, .int 0, .int 0, .int 0, .int 0, .long 0, .null, .null, .null, .null])), (q1, .inl (cA2, 900, .inr (.inr (.inr (.inr (fun _ => none)))))), (q3, .inl (cA4, 30, .inl (fun _ => 0)))] := hD
  have hP := hP.sub (ws' := [(h0, .inr (8, [.ref q1, .ref q3, .null, .null, .int 0, .int 0, .int 0, .int 0, .long 0, .null, .null, .null, .null])), (q1, .inl (cA2, 900, .inr (.inr (.inr (.inr (fun _ => none))))))]) [0, 1] rfl
  have hD := hD.sub (ws' := [(h0, .inr (8, [.ref q1, .ref q3, .null, .null, .int 0, .int 0, .int 0, .int 0, .long 0, .null, .null, .null, .null])), (q1, .inl (cA2, 900, .inr (.inr (.inr (.inr (fun _ => none))))))]) [0, 1] (by decide) rfl
  have hK := hK.sub (tys' := [(cA2, .object RX0)]) [0] rfl
  refine lv_aload_n hx hb dX8_init_22 rfl (lv_at hl 0 rfl) ?_
  refine lv_bipush (v := (30)) hx hb dX8_init_23 (by decide) ?_
  refine va_newa (atype := .int) (ty := .int) (N' := 30) (a0 := (30, .inl (fun _ => 0))) hx hb (hts (.arrayClass .int) (by decide +kernel)) rfl hK hP hD hS hA (fun cA => vp_cell_i cA 30 (fun _ => 0)) (by decide) (by decide) (by decide) (Nat.le_of_ble_eq_true rfl) (Nat.le_of_ble_eq_true rfl) dX8_init_25 (fun q5 cA6 H hK hP hD hS => ?_)
  have hP : va_P D vwCl [(h0, .inr (8, [.ref q1, .ref q3, .null, .null, .int 0, .int 0, .int 0, .int 0, .long 0, .null, .null, .null, .null])), (q1, .inl (cA2, 900, .inr (.inr (.inr (.inr (fun _ => none)))))), (q5, .inl (cA6, 30, .inl (fun _ => 0)))] H := hP
  have hD : va_D A [(h0, .inr (8, [.ref q1, .ref q3, .null, .null, .int 0, .int 0, .int 0, .int 0, .long 0, .null, .null, .null, .null])), (q1, .inl (cA2, 900, .inr (.inr (.inr (.inr (fun _ => none)))))), (q5, .inl (cA6, 30, .inl (fun _ => 0)))] := hD
  have hK : va_K D vwCl [(cA2, .object RX0), (cA6, .int)] s := hK
  refine W.widen (k := 3) (n := 960) (by omega) (by omega) ?_
  refine va_putF (D := D) (ci := 8) (v := .ref q5) (ty := .array .int) (C := RX8) (T := TX8) (N := 13) hx hb hts (by decide +kernel) tyX8 tyX8_ok nmX8 hown hK hP hD hS 0 rfl rfl 2 (by decide) (hts (.fieldLink RX8 21 "HiddenMoves$Solver" "columnUnknowns" "[I") (by decide +kernel)) (fun _ h9 => h9) rfl hin rfl (by decide +kernel) rfl rfl (Nat.le_of_ble_eq_true rfl) dX8_init_27 (fun H locs hP hD hS => ?_)
  have hP : va_P D vwCl [(h0, .inr (8, [.ref q1, .ref q3, .ref q5, .null, .int 0, .int 0, .int 0, .int 0, .long 0, .null, .null, .null, .null])), (q1, .inl (cA2, 900, .inr (.inr (.inr (.inr (fun _ => none)))))), (q5, .inl (cA6, 30, .inl (fun _ => 0)))] H := hP
  have hD : va_D A [(h0, .inr (8, [.ref q1, .ref q3, .ref q5, .null, .int 0, .int 0, .int 0, .int 0, .long 0, .null, .null, .null, .null])), (q1, .inl (cA2, 900, .inr (.inr (.inr (.inr (fun _ => none)))))), (q5, .inl (cA6, 30, .inl (fun _ => 0)))] := hD
  have hP := hP.sub (ws' := [(h0, .inr (8, [.ref q1, .ref q3, .ref q5, .null, .int 0, .int 0, .int 0, .int 0, .long 0, .null, .null, .null, .null])), (q1, .inl (cA2, 900, .inr (.inr (.inr (.inr (fun _ => none))))))]) [0, 1] rfl
  have hD := hD.sub (ws' := [(h0, .inr (8, [.ref q1, .ref q3, .ref q5, .null, .int 0, .int 0, .int 0, .int 0, .long 0, .null, .null, .null, .null])), (q1, .inl (cA2, 900, .inr (.inr (.inr (.inr (fun _ => none))))))]) [0, 1] (by decide) rfl
  have hK := hK.sub (tys' := [(cA2, .object RX0)]) [0] rfl
  refine lv_aload_n hx hb dX8_init_30 rfl (lv_at hl 0 rfl) ?_
  refine lv_bipush (v := (10)) hx hb dX8_init_31 (by decide) ?_
  refine va_newa (atype := .long) (ty := .long) (N' := 10) (a0 := (10, .inr (.inl (fun _ => 0)))) hx hb (hts (.arrayClass .long) (by decide +kernel)) rfl hK hP hD hS hA (fun cA => vp_cell_l cA 10 (fun _ => 0)) (by decide) (by decide) (by decide) (Nat.le_of_ble_eq_true rfl) (Nat.le_of_ble_eq_true rfl) dX8_init_33 (fun q7 cA8 H hK hP hD hS => ?_)
  have hP : va_P D vwCl [(h0, .inr (8, [.ref q1, .ref q3, .ref q5, .null, .int 0, .int 0, .int 0, .int 0, .long 0, .null, .null, .null, .null])), (q1, .inl (cA2, 900, .inr (.inr (.inr (.inr (fun _ => none)))))), (q7, .inl (cA8, 10, .inr (.inl (fun _ => 0))))] H := hP
  have hD : va_D A [(h0, .inr (8, [.ref q1, .ref q3, .ref q5, .null, .int 0, .int 0, .int 0, .int 0, .long 0, .null, .null, .null, .null])), (q1, .inl (cA2, 900, .inr (.inr (.inr (.inr (fun _ => none)))))), (q7, .inl (cA8, 10, .inr (.inl (fun _ => 0))))] := hD
  have hK : va_K D vwCl [(cA2, .object RX0), (cA8, .long)] s := hK
  refine W.widen (k := 4) (n := 970) (by omega) (by omega) ?_
  refine va_putF (D := D) (ci := 8) (v := .ref q7) (ty := .array .long) (C := RX8) (T := TX8) (N := 13) hx hb hts (by decide +kernel) tyX8 tyX8_ok nmX8 hown hK hP hD hS 0 rfl rfl 3 (by decide) (hts (.fieldLink RX8 24 "HiddenMoves$Solver" "floors" "[J") (by decide +kernel)) (fun _ h9 => h9) rfl hin rfl (by decide +kernel) rfl rfl (Nat.le_of_ble_eq_true rfl) dX8_init_35 (fun H locs hP hD hS => ?_)
  have hP : va_P D vwCl [(h0, .inr (8, [.ref q1, .ref q3, .ref q5, .ref q7, .int 0, .int 0, .int 0, .int 0, .long 0, .null, .null, .null, .null])), (q1, .inl (cA2, 900, .inr (.inr (.inr (.inr (fun _ => none)))))), (q7, .inl (cA8, 10, .inr (.inl (fun _ => 0))))] H := hP
  have hD : va_D A [(h0, .inr (8, [.ref q1, .ref q3, .ref q5, .ref q7, .int 0, .int 0, .int 0, .int 0, .long 0, .null, .null, .null, .null])), (q1, .inl (cA2, 900, .inr (.inr (.inr (.inr (fun _ => none)))))), (q7, .inl (cA8, 10, .inr (.inl (fun _ => 0))))] := hD
  have hP := hP.sub (ws' := [(h0, .inr (8, [.ref q1, .ref q3, .ref q5, .ref q7, .int 0, .int 0, .int 0, .int 0, .long 0, .null, .null, .null, .null])), (q1, .inl (cA2, 900, .inr (.inr (.inr (.inr (fun _ => none))))))]) [0, 1] rfl
  have hD := hD.sub (ws' := [(h0, .inr (8, [.ref q1, .ref q3, .ref q5, .ref q7, .int 0, .int 0, .int 0, .int 0, .long 0, .null, .null, .null, .null])), (q1, .inl (cA2, 900, .inr (.inr (.inr (.inr (fun _ => none))))))]) [0, 1] (by decide) rfl
  have hK := hK.sub (tys' := [(cA2, .object RX0)]) [0] rfl
  refine lv_aload_n hx hb dX8_init_38 rfl (lv_at hl 0 rfl) ?_
  refine lv_iconst (v := 0) hx hb dX8_init_39 (by decide) ?_
  refine va_put (D := D) (ci := 8) (v := .int 0) (ty := .int) (C := RX8) (T := TX8) (N := 13) hx hb hts (by decide +kernel) tyX8 tyX8_ok nmX8 hown hK hP hD hS 0 rfl rfl 4 (by decide) (hts (.fieldLink RX8 28 "HiddenMoves$Solver" "rows" "I") (by decide +kernel)) (fun _ h9 => h9) rfl (by decide +kernel) rfl rfl (Nat.le_of_ble_eq_true rfl) dX8_init_40 (fun H locs hP hD hS => ?_)
  have hP : va_P D vwCl [(h0, .inr (8, [.ref q1, .ref q3, .ref q5, .ref q7, .int 0, .int 0, .int 0, .int 0, .long 0, .null, .null, .null, .null])), (q1, .inl (cA2, 900, .inr (.inr (.inr (.inr (fun _ => none))))))] H := hP
  have hD : va_D A [(h0, .inr (8, [.ref q1, .ref q3, .ref q5, .ref q7, .int 0, .int 0, .int 0, .int 0, .long 0, .null, .null, .null, .null])), (q1, .inl (cA2, 900, .inr (.inr (.inr (.inr (fun _ => none))))))] := hD
  refine lv_aload_n hx hb dX8_init_43 rfl (lv_at hl 0 rfl) ?_
  refine lv_iconst (v := 0) hx hb dX8_init_44 (by decide) ?_
  refine va_put (D := D) (ci := 8) (v := .int 0) (ty := .int) (C := RX8) (T := TX8) (N := 13) hx hb hts (by decide +kernel) tyX8 tyX8_ok nmX8 hown hK hP hD hS 0 rfl rfl 5 (by decide) (hts (.fieldLink RX8 32 "HiddenMoves$Solver" "columns" "I") (by decide +kernel)) (fun _ h9 => h9) rfl (by decide +kernel) rfl rfl (Nat.le_of_ble_eq_true rfl) dX8_init_45 (fun H locs hP hD hS => ?_)
  have hP : va_P D vwCl [(h0, .inr (8, [.ref q1, .ref q3, .ref q5, .ref q7, .int 0, .int 0, .int 0, .int 0, .long 0, .null, .null, .null, .null])), (q1, .inl (cA2, 900, .inr (.inr (.inr (.inr (fun _ => none))))))] H := hP
  have hD : va_D A [(h0, .inr (8, [.ref q1, .ref q3, .ref q5, .ref q7, .int 0, .int 0, .int 0, .int 0, .long 0, .null, .null, .null, .null])), (q1, .inl (cA2, 900, .inr (.inr (.inr (.inr (fun _ => none))))))] := hD
  refine lv_aload_n hx hb dX8_init_48 rfl (lv_at hl 0 rfl) ?_
  refine lv_iconst (v := 1) hx hb dX8_init_49 (by decide) ?_
  refine va_put (D := D) (ci := 8) (v := .int 1) (ty := .int) (C := RX8) (T := TX8) (N := 13) hx hb hts (by decide +kernel) tyX8 tyX8_ok nmX8 hown hK hP hD hS 0 rfl rfl 6 (by decide) (hts (.fieldLink RX8 35 "HiddenMoves$Solver" "linesOfA" "I") (by decide +kernel)) (fun _ h9 => h9) rfl (by decide +kernel) rfl rfl (Nat.le_of_ble_eq_true rfl) dX8_init_50 (fun H locs hP hD hS => ?_)
  have hP : va_P D vwCl [(h0, .inr (8, [.ref q1, .ref q3, .ref q5, .ref q7, .int 0, .int 0, .int 1, .int 0, .long 0, .null, .null, .null, .null])), (q1, .inl (cA2, 900, .inr (.inr (.inr (.inr (fun _ => none))))))] H := hP
  have hD : va_D A [(h0, .inr (8, [.ref q1, .ref q3, .ref q5, .ref q7, .int 0, .int 0, .int 1, .int 0, .long 0, .null, .null, .null, .null])), (q1, .inl (cA2, 900, .inr (.inr (.inr (.inr (fun _ => none))))))] := hD
  refine lv_aload_n hx hb dX8_init_53 rfl (lv_at hl 0 rfl) ?_
  refine lv_iconst (v := 1) hx hb dX8_init_54 (by decide) ?_
  refine va_put (D := D) (ci := 8) (v := .int 1) (ty := .int) (C := RX8) (T := TX8) (N := 13) hx hb hts (by decide +kernel) tyX8 tyX8_ok nmX8 hown hK hP hD hS 0 rfl rfl 7 (by decide) (hts (.fieldLink RX8 38 "HiddenMoves$Solver" "linesOfB" "I") (by decide +kernel)) (fun _ h9 => h9) rfl (by decide +kernel) rfl rfl (Nat.le_of_ble_eq_true rfl) dX8_init_55 (fun H locs hP hD hS => ?_)
  have hP : va_P D vwCl [(h0, .inr (8, [.ref q1, .ref q3, .ref q5, .ref q7, .int 0, .int 0, .int 1, .int 1, .long 0, .null, .null, .null, .null])), (q1, .inl (cA2, 900, .inr (.inr (.inr (.inr (fun _ => none))))))] H := hP
  have hD : va_D A [(h0, .inr (8, [.ref q1, .ref q3, .ref q5, .ref q7, .int 0, .int 0, .int 1, .int 1, .long 0, .null, .null, .null, .null])), (q1, .inl (cA2, 900, .inr (.inr (.inr (.inr (fun _ => none))))))] := hD
  refine lv_aload_n hx hb dX8_init_58 rfl (lv_at hl 0 rfl) ?_
  refine lv_lconst (v := 0) hx hb dX8_init_59 (by decide) ?_
  refine va_put (D := D) (ci := 8) (v := .long 0) (ty := .long) (C := RX8) (T := TX8) (N := 13) hx hb hts (by decide +kernel) tyX8 tyX8_ok nmX8 hown hK hP hD hS 0 rfl rfl 8 (by decide) (hts (.fieldLink RX8 41 "HiddenMoves$Solver" "shift" "J") (by decide +kernel)) (fun _ h9 => h9) rfl (by decide +kernel) rfl rfl (Nat.le_of_ble_eq_true rfl) dX8_init_60 (fun H locs hP hD hS => ?_)
  have hP : va_P D vwCl [(h0, .inr (8, [.ref q1, .ref q3, .ref q5, .ref q7, .int 0, .int 0, .int 1, .int 1, .long 0, .null, .null, .null, .null])), (q1, .inl (cA2, 900, .inr (.inr (.inr (.inr (fun _ => none))))))] H := hP
  have hD : va_D A [(h0, .inr (8, [.ref q1, .ref q3, .ref q5, .ref q7, .int 0, .int 0, .int 1, .int 1, .long 0, .null, .null, .null, .null])), (q1, .inl (cA2, 900, .inr (.inr (.inr (.inr (fun _ => none))))))] := hD
  refine lv_aload_n hx hb dX8_init_63 rfl (lv_at hl 0 rfl) ?_
  refine va_new (ci := 0) (fs := [.null, .int 0, .int 0]) (C := RX0) (T := TX0) (N := 3) hx hb hts (by decide +kernel) tyX0 tyX0_ok hown (hts (.classLink RX8 11 RX0) (by decide +kernel)) (hts (.instantiable RX0 3) (by decide +kernel)) (hts (.initialized RX0) (by decide +kernel)) hK hP hD hS hA rfl (fun j hj => by rcases (show j = 0 ∨ j = 1 ∨ j = 2 by omega) with rfl | rfl | rfl <;> rfl) (Nat.le_of_ble_eq_true rfl) (Nat.le_of_ble_eq_true rfl) dX8_init_64 (fun q9 H hP hD hS => ?_)
  have hP : va_P D vwCl [(h0, .inr (8, [.ref q1, .ref q3, .ref q5, .ref q7, .int 0, .int 0, .int 1, .int 1, .long 0, .null, .null, .null, .null])), (q1, .inl (cA2, 900, .inr (.inr (.inr (.inr (fun _ => none)))))), (q9, .inr (0, [.null, .int 0, .int 0]))] H := hP
  have hD : va_D A [(h0, .inr (8, [.ref q1, .ref q3, .ref q5, .ref q7, .int 0, .int 0, .int 1, .int 1, .long 0, .null, .null, .null, .null])), (q1, .inl (cA2, 900, .inr (.inr (.inr (.inr (fun _ => none)))))), (q9, .inr (0, [.null, .int 0, .int 0]))] := hD
  refine W.widen (k := 5) (n := 973) (by omega) (by omega) ?_
  refine lv_dup hx hb dX8_init_67 rfl ?_
  refine lv_bipush (v := (32)) hx hb dX8_init_68 (by decide) ?_
  have hPc := hP.sub (ws' := [(q9, .inr (0, [.null, .int 0, .int 0]))]) [2] rfl
  have hDc := hD.sub (ws' := [(q9, .inr (0, [.null, .int 0, .int 0]))]) [2] (by decide) rfl
  have hKc := hK.sub (tys' := []) [] rfl
  have hFc := va_free (wc := [(q9, .inr (0, [.null, .int 0, .int 0]))]) hD hS hA [2] rfl
  refine va_callv (va_runI (As := [.int 32]) (rest := [.ref q9, .ref h0]) ⟨hx, hb, hml, hown, hts⟩ (c_X0_init_32 l D q9 _) (cwI 1 hts gX8_init_X0_init rfl rfl rfl (hts (.initialized RX0) (by decide +kernel)) (hts (.methodLink RX8 45 yX0_init) (by decide +kernel)) (hts (.instanceMethod yX0_init) (by decide +kernel)) rfl (by decide +kernel) ⟨Nat.le_of_ble_eq_true rfl, Nat.le_of_ble_eq_true rfl⟩) ⟨hm_blind, hm_pre hPc hKc hDc hE⟩ rfl rfl hl.1 rfl (lv_room (Nat.le_of_ble_eq_true rfl)) dX8_init_70 ⟨(Nat.le_of_ble_eq_true rfl), (Nat.le_of_ble_eq_true rfl)⟩) hS (fun q _ h => hFc q h) hFc (fun u t H1 locs ht hvm hw hB hz1 hk1 hS => ?_)
  obtain ⟨q10, cA11, hP1, hK1, hD1⟩ := hB
  rw [ht] at hP1
  have hK1 := va_K.moved hvm.symm hK1
  obtain ⟨hP, hD⟩ := va_join (wr := [(h0, .inr (8, [.ref q1, .ref q3, .ref q5, .ref q7, .int 0, .int 0, .int 1, .int 1, .long 0, .null, .null, .null, .null])), (q1, .inl (cA2, 900, .inr (.inr (.inr (.inr (fun _ => none))))))]) (w1 := [(q9, .inr (0, [.ref q10, .int 0, .int 0])), (q10, .inl (cA11, 32, .inl (fun _ => 0)))]) hP hD [2] [0, 1] rfl rfl (by decide) (by decide) hk1 hFc hP1 hD1
  have hK := (hK.sub (tys' := [(cA2, .object RX0)]) [0] rfl).app hK1
  generalize H1 = H at hP hS ⊢
  have hP : va_P D vwCl [(h0, .inr (8, [.ref q1, .ref q3, .ref q5, .ref q7, .int 0, .int 0, .int 1, .int 1, .long 0, .null, .null, .null, .null])), (q1, .inl (cA2, 900, .inr (.inr (.inr (.inr (fun _ => none)))))), (q9, .inr (0, [.ref q10, .int 0, .int 0])), (q10, .inl (cA11, 32, .inl (fun _ => 0)))] H := hP
  have hD : va_D A [(h0, .inr (8, [.ref q1, .ref q3, .ref q5, .ref q7, .int 0, .int 0, .int 1, .int 1, .long 0, .null, .null, .null, .null])), (q1, .inl (cA2, 900, .inr (.inr (.inr (.inr (fun _ => none)))))), (q9, .inr (0, [.ref q10, .int 0, .int 0])), (q10, .inl (cA11, 32, .inl (fun _ => 0)))] := hD
  have hK : va_K D vwCl [(cA2, .object RX0), (cA11, .int)] s := hK
  refine W.widen (k := 6) (n := 1005) (by omega) (by omega) ?_
  refine va_putF (D := D) (ci := 8) (v := .ref q9) (ty := .object "HiddenMoves$Big") (C := RX8) (T := TX8) (N := 13) hx hb hts (by decide +kernel) tyX8 tyX8_ok nmX8 hown hK hP hD hS 0 rfl rfl 9 (by decide) (hts (.fieldLink RX8 48 "HiddenMoves$Solver" "scale" "LHiddenMoves$Big;") (by decide +kernel)) (fun _ h9 => h9) rfl hin rfl (by decide +kernel) rfl rfl (Nat.le_of_ble_eq_true rfl) dX8_init_73 (fun H locs hP hD hS => ?_)
  have hP : va_P D vwCl [(h0, .inr (8, [.ref q1, .ref q3, .ref q5, .ref q7, .int 0, .int 0, .int 1, .int 1, .long 0, .ref q9, .null, .null, .null])), (q1, .inl (cA2, 900, .inr (.inr (.inr (.inr (fun _ => none)))))), (q9, .inr (0, [.ref q10, .int 0, .int 0])), (q10, .inl (cA11, 32, .inl (fun _ => 0)))] H := hP
  have hD : va_D A [(h0, .inr (8, [.ref q1, .ref q3, .ref q5, .ref q7, .int 0, .int 0, .int 1, .int 1, .long 0, .ref q9, .null, .null, .null])), (q1, .inl (cA2, 900, .inr (.inr (.inr (.inr (fun _ => none)))))), (q9, .inr (0, [.ref q10, .int 0, .int 0])), (q10, .inl (cA11, 32, .inl (fun _ => 0)))] := hD
  have hP := hP.sub (ws' := [(h0, .inr (8, [.ref q1, .ref q3, .ref q5, .ref q7, .int 0, .int 0, .int 1, .int 1, .long 0, .ref q9, .null, .null, .null])), (q1, .inl (cA2, 900, .inr (.inr (.inr (.inr (fun _ => none))))))]) [0, 1] rfl
  have hD := hD.sub (ws' := [(h0, .inr (8, [.ref q1, .ref q3, .ref q5, .ref q7, .int 0, .int 0, .int 1, .int 1, .long 0, .ref q9, .null, .null, .null])), (q1, .inl (cA2, 900, .inr (.inr (.inr (.inr (fun _ => none))))))]) [0, 1] (by decide) rfl
  have hK := hK.sub (tys' := [(cA2, .object RX0)]) [0] rfl
  refine lv_aload_n hx hb dX8_init_76 rfl (lv_at hl 0 rfl) ?_
  refine va_new (ci := 0) (fs := [.null, .int 0, .int 0]) (C := RX0) (T := TX0) (N := 3) hx hb hts (by decide +kernel) tyX0 tyX0_ok hown (hts (.classLink RX8 11 RX0) (by decide +kernel)) (hts (.instantiable RX0 3) (by decide +kernel)) (hts (.initialized RX0) (by decide +kernel)) hK hP hD hS hA rfl (fun j hj => by rcases (show j = 0 ∨ j = 1 ∨ j = 2 by omega) with rfl | rfl | rfl <;> rfl) (Nat.le_of_ble_eq_true rfl) (Nat.le_of_ble_eq_true rfl) dX8_init_77 (fun q12 H hP hD hS => ?_)
  have hP : va_P D vwCl [(h0, .inr (8, [.ref q1, .ref q3, .ref q5, .ref q7, .int 0, .int 0, .int 1, .int 1, .long 0, .ref q9, .null, .null, .null])), (q1, .inl (cA2, 900, .inr (.inr (.inr (.inr (fun _ => none)))))), (q12, .inr (0, [.null, .int 0, .int 0]))] H := hP
  have hD : va_D A [(h0, .inr (8, [.ref q1, .ref q3, .ref q5, .ref q7, .int 0, .int 0, .int 1, .int 1, .long 0, .ref q9, .null, .null, .null])), (q1, .inl (cA2, 900, .inr (.inr (.inr (.inr (fun _ => none)))))), (q12, .inr (0, [.null, .int 0, .int 0]))] := hD
  refine W.widen (k := 7) (n := 1008) (by omega) (by omega) ?_
  refine lv_dup hx hb dX8_init_80 rfl ?_
  refine lv_bipush (v := (64)) hx hb dX8_init_81 (by decide) ?_
  have hPc := hP.sub (ws' := [(q12, .inr (0, [.null, .int 0, .int 0]))]) [2] rfl
  have hDc := hD.sub (ws' := [(q12, .inr (0, [.null, .int 0, .int 0]))]) [2] (by decide) rfl
  have hKc := hK.sub (tys' := []) [] rfl
  have hFc := va_free (wc := [(q12, .inr (0, [.null, .int 0, .int 0]))]) hD hS hA [2] rfl
  refine va_callv (va_runI (As := [.int 64]) (rest := [.ref q12, .ref h0]) ⟨hx, hb, hml, hown, hts⟩ (c_X0_init_64 l D q12 _) (cwI 1 hts gX8_init_X0_init rfl rfl rfl (hts (.initialized RX0) (by decide +kernel)) (hts (.methodLink RX8 45 yX0_init) (by decide +kernel)) (hts (.instanceMethod yX0_init) (by decide +kernel)) rfl (by decide +kernel) ⟨Nat.le_of_ble_eq_true rfl, Nat.le_of_ble_eq_true rfl⟩) ⟨hm_blind, hm_pre hPc hKc hDc hE⟩ rfl rfl hl.1 rfl (lv_room (Nat.le_of_ble_eq_true rfl)) dX8_init_83 ⟨(Nat.le_of_ble_eq_true rfl), (Nat.le_of_ble_eq_true rfl)⟩) hS (fun q _ h => hFc q h) hFc (fun u t H1 locs ht hvm hw hB hz1 hk1 hS => ?_)
  obtain ⟨q13, cA14, hP1, hK1, hD1⟩ := hB
  rw [ht] at hP1
  have hK1 := va_K.moved hvm.symm hK1
  obtain ⟨hP, hD⟩ := va_join (wr := [(h0, .inr (8, [.ref q1, .ref q3, .ref q5, .ref q7, .int 0, .int 0, .int 1, .int 1, .long 0, .ref q9, .null, .null, .null])), (q1, .inl (cA2, 900, .inr (.inr (.inr (.inr (fun _ => none))))))]) (w1 := [(q12, .inr (0, [.ref q13, .int 0, .int 0])), (q13, .inl (cA14, 64, .inl (fun _ => 0)))]) hP hD [2] [0, 1] rfl rfl (by decide) (by decide) hk1 hFc hP1 hD1
  have hK := (hK.sub (tys' := [(cA2, .object RX0)]) [0] rfl).app hK1
  generalize H1 = H at hP hS ⊢
  have hP : va_P D vwCl [(h0, .inr (8, [.ref q1, .ref q3, .ref q5, .ref q7, .int 0, .int 0, .int 1, .int 1, .long 0, .ref q9, .null, .null, .null])), (q1, .inl (cA2, 900, .inr (.inr (.inr (.inr (fun _ => none)))))), (q12, .inr (0, [.ref q13, .int 0, .int 0])), (q13, .inl (cA14, 64, .inl (fun _ => 0)))] H := hP
  have hD : va_D A [(h0, .inr (8, [.ref q1, .ref q3, .ref q5, .ref q7, .int 0, .int 0, .int 1, .int 1, .long 0, .ref q9, .null, .null, .null])), (q1, .inl (cA2, 900, .inr (.inr (.inr (.inr (fun _ => none)))))), (q12, .inr (0, [.ref q13, .int 0, .int 0])), (q13, .inl (cA14, 64, .inl (fun _ => 0)))] := hD
  have hK : va_K D vwCl [(cA2, .object RX0), (cA14, .int)] s := hK
  refine W.widen (k := 8) (n := 1072) (by omega) (by omega) ?_
  refine va_putF (D := D) (ci := 8) (v := .ref q12) (ty := .object "HiddenMoves$Big") (C := RX8) (T := TX8) (N := 13) hx hb hts (by decide +kernel) tyX8 tyX8_ok nmX8 hown hK hP hD hS 0 rfl rfl 10 (by decide) (hts (.fieldLink RX8 52 "HiddenMoves$Solver" "left" "LHiddenMoves$Big;") (by decide +kernel)) (fun _ h9 => h9) rfl hin rfl (by decide +kernel) rfl rfl (Nat.le_of_ble_eq_true rfl) dX8_init_86 (fun H locs hP hD hS => ?_)
  have hP : va_P D vwCl [(h0, .inr (8, [.ref q1, .ref q3, .ref q5, .ref q7, .int 0, .int 0, .int 1, .int 1, .long 0, .ref q9, .ref q12, .null, .null])), (q1, .inl (cA2, 900, .inr (.inr (.inr (.inr (fun _ => none)))))), (q12, .inr (0, [.ref q13, .int 0, .int 0])), (q13, .inl (cA14, 64, .inl (fun _ => 0)))] H := hP
  have hD : va_D A [(h0, .inr (8, [.ref q1, .ref q3, .ref q5, .ref q7, .int 0, .int 0, .int 1, .int 1, .long 0, .ref q9, .ref q12, .null, .null])), (q1, .inl (cA2, 900, .inr (.inr (.inr (.inr (fun _ => none)))))), (q12, .inr (0, [.ref q13, .int 0, .int 0])), (q13, .inl (cA14, 64, .inl (fun _ => 0)))] := hD
  have hP := hP.sub (ws' := [(h0, .inr (8, [.ref q1, .ref q3, .ref q5, .ref q7, .int 0, .int 0, .int 1, .int 1, .long 0, .ref q9, .ref q12, .null, .null])), (q1, .inl (cA2, 900, .inr (.inr (.inr (.inr (fun _ => none))))))]) [0, 1] rfl
  have hD := hD.sub (ws' := [(h0, .inr (8, [.ref q1, .ref q3, .ref q5, .ref q7, .int 0, .int 0, .int 1, .int 1, .long 0, .ref q9, .ref q12, .null, .null])), (q1, .inl (cA2, 900, .inr (.inr (.inr (.inr (fun _ => none))))))]) [0, 1] (by decide) rfl
  have hK := hK.sub (tys' := [(cA2, .object RX0)]) [0] rfl
  refine lv_aload_n hx hb dX8_init_89 rfl (lv_at hl 0 rfl) ?_
  refine va_new (ci := 0) (fs := [.null, .int 0, .int 0]) (C := RX0) (T := TX0) (N := 3) hx hb hts (by decide +kernel) tyX0 tyX0_ok hown (hts (.classLink RX8 11 RX0) (by decide +kernel)) (hts (.instantiable RX0 3) (by decide +kernel)) (hts (.initialized RX0) (by decide +kernel)) hK hP hD hS hA rfl (fun j hj => by rcases (show j = 0 ∨ j = 1 ∨ j = 2 by omega) with rfl | rfl | rfl <;> rfl) (Nat.le_of_ble_eq_true rfl) (Nat.le_of_ble_eq_true rfl) dX8_init_90 (fun q15 H hP hD hS => ?_)
  have hP : va_P D vwCl [(h0, .inr (8, [.ref q1, .ref q3, .ref q5, .ref q7, .int 0, .int 0, .int 1, .int 1, .long 0, .ref q9, .ref q12, .null, .null])), (q1, .inl (cA2, 900, .inr (.inr (.inr (.inr (fun _ => none)))))), (q15, .inr (0, [.null, .int 0, .int 0]))] H := hP
  have hD : va_D A [(h0, .inr (8, [.ref q1, .ref q3, .ref q5, .ref q7, .int 0, .int 0, .int 1, .int 1, .long 0, .ref q9, .ref q12, .null, .null])), (q1, .inl (cA2, 900, .inr (.inr (.inr (.inr (fun _ => none)))))), (q15, .inr (0, [.null, .int 0, .int 0]))] := hD
  refine W.widen (k := 9) (n := 1075) (by omega) (by omega) ?_
  refine lv_dup hx hb dX8_init_93 rfl ?_
  refine lv_bipush (v := (64)) hx hb dX8_init_94 (by decide) ?_
  have hPc := hP.sub (ws' := [(q15, .inr (0, [.null, .int 0, .int 0]))]) [2] rfl
  have hDc := hD.sub (ws' := [(q15, .inr (0, [.null, .int 0, .int 0]))]) [2] (by decide) rfl
  have hKc := hK.sub (tys' := []) [] rfl
  have hFc := va_free (wc := [(q15, .inr (0, [.null, .int 0, .int 0]))]) hD hS hA [2] rfl
  refine va_callv (va_runI (As := [.int 64]) (rest := [.ref q15, .ref h0]) ⟨hx, hb, hml, hown, hts⟩ (c_X0_init_64 l D q15 _) (cwI 1 hts gX8_init_X0_init rfl rfl rfl (hts (.initialized RX0) (by decide +kernel)) (hts (.methodLink RX8 45 yX0_init) (by decide +kernel)) (hts (.instanceMethod yX0_init) (by decide +kernel)) rfl (by decide +kernel) ⟨Nat.le_of_ble_eq_true rfl, Nat.le_of_ble_eq_true rfl⟩) ⟨hm_blind, hm_pre hPc hKc hDc hE⟩ rfl rfl hl.1 rfl (lv_room (Nat.le_of_ble_eq_true rfl)) dX8_init_96 ⟨(Nat.le_of_ble_eq_true rfl), (Nat.le_of_ble_eq_true rfl)⟩) hS (fun q _ h => hFc q h) hFc (fun u t H1 locs ht hvm hw hB hz1 hk1 hS => ?_)
  obtain ⟨q16, cA17, hP1, hK1, hD1⟩ := hB
  rw [ht] at hP1
  have hK1 := va_K.moved hvm.symm hK1
  obtain ⟨hP, hD⟩ := va_join (wr := [(h0, .inr (8, [.ref q1, .ref q3, .ref q5, .ref q7, .int 0, .int 0, .int 1, .int 1, .long 0, .ref q9, .ref q12, .null, .null])), (q1, .inl (cA2, 900, .inr (.inr (.inr (.inr (fun _ => none))))))]) (w1 := [(q15, .inr (0, [.ref q16, .int 0, .int 0])), (q16, .inl (cA17, 64, .inl (fun _ => 0)))]) hP hD [2] [0, 1] rfl rfl (by decide) (by decide) hk1 hFc hP1 hD1
  have hK := (hK.sub (tys' := [(cA2, .object RX0)]) [0] rfl).app hK1
  generalize H1 = H at hP hS ⊢
  have hP : va_P D vwCl [(h0, .inr (8, [.ref q1, .ref q3, .ref q5, .ref q7, .int 0, .int 0, .int 1, .int 1, .long 0, .ref q9, .ref q12, .null, .null])), (q1, .inl (cA2, 900, .inr (.inr (.inr (.inr (fun _ => none)))))), (q15, .inr (0, [.ref q16, .int 0, .int 0])), (q16, .inl (cA17, 64, .inl (fun _ => 0)))] H := hP
  have hD : va_D A [(h0, .inr (8, [.ref q1, .ref q3, .ref q5, .ref q7, .int 0, .int 0, .int 1, .int 1, .long 0, .ref q9, .ref q12, .null, .null])), (q1, .inl (cA2, 900, .inr (.inr (.inr (.inr (fun _ => none)))))), (q15, .inr (0, [.ref q16, .int 0, .int 0])), (q16, .inl (cA17, 64, .inl (fun _ => 0)))] := hD
  have hK : va_K D vwCl [(cA2, .object RX0), (cA17, .int)] s := hK
  refine W.widen (k := 10) (n := 1139) (by omega) (by omega) ?_
  refine va_putF (D := D) (ci := 8) (v := .ref q15) (ty := .object "HiddenMoves$Big") (C := RX8) (T := TX8) (N := 13) hx hb hts (by decide +kernel) tyX8 tyX8_ok nmX8 hown hK hP hD hS 0 rfl rfl 11 (by decide) (hts (.fieldLink RX8 55 "HiddenMoves$Solver" "right" "LHiddenMoves$Big;") (by decide +kernel)) (fun _ h9 => h9) rfl hin rfl (by decide +kernel) rfl rfl (Nat.le_of_ble_eq_true rfl) dX8_init_99 (fun H locs hP hD hS => ?_)
  have hP : va_P D vwCl [(h0, .inr (8, [.ref q1, .ref q3, .ref q5, .ref q7, .int 0, .int 0, .int 1, .int 1, .long 0, .ref q9, .ref q12, .ref q15, .null])), (q1, .inl (cA2, 900, .inr (.inr (.inr (.inr (fun _ => none)))))), (q15, .inr (0, [.ref q16, .int 0, .int 0])), (q16, .inl (cA17, 64, .inl (fun _ => 0)))] H := hP
  have hD : va_D A [(h0, .inr (8, [.ref q1, .ref q3, .ref q5, .ref q7, .int 0, .int 0, .int 1, .int 1, .long 0, .ref q9, .ref q12, .ref q15, .null])), (q1, .inl (cA2, 900, .inr (.inr (.inr (.inr (fun _ => none)))))), (q15, .inr (0, [.ref q16, .int 0, .int 0])), (q16, .inl (cA17, 64, .inl (fun _ => 0)))] := hD
  have hP := hP.sub (ws' := [(h0, .inr (8, [.ref q1, .ref q3, .ref q5, .ref q7, .int 0, .int 0, .int 1, .int 1, .long 0, .ref q9, .ref q12, .ref q15, .null])), (q1, .inl (cA2, 900, .inr (.inr (.inr (.inr (fun _ => none))))))]) [0, 1] rfl
  have hD := hD.sub (ws' := [(h0, .inr (8, [.ref q1, .ref q3, .ref q5, .ref q7, .int 0, .int 0, .int 1, .int 1, .long 0, .ref q9, .ref q12, .ref q15, .null])), (q1, .inl (cA2, 900, .inr (.inr (.inr (.inr (fun _ => none))))))]) [0, 1] (by decide) rfl
  have hK := hK.sub (tys' := [(cA2, .object RX0)]) [0] rfl
  refine lv_aload_n hx hb dX8_init_102 rfl (lv_at hl 0 rfl) ?_
  refine va_new (ci := 1) (fs := [.null, .int 0, .int 0]) (C := RX1) (T := TX1) (N := 3) hx hb hts (by decide +kernel) tyX1 tyX1_ok hown (hts (.classLink RX8 58 RX1) (by decide +kernel)) (hts (.instantiable RX1 3) (by decide +kernel)) (hts (.initialized RX1) (by decide +kernel)) hK hP hD hS hA rfl (fun j hj => by rcases (show j = 0 ∨ j = 1 ∨ j = 2 by omega) with rfl | rfl | rfl <;> rfl) (Nat.le_of_ble_eq_true rfl) (Nat.le_of_ble_eq_true rfl) dX8_init_103 (fun q18 H hP hD hS => ?_)
  have hP : va_P D vwCl [(h0, .inr (8, [.ref q1, .ref q3, .ref q5, .ref q7, .int 0, .int 0, .int 1, .int 1, .long 0, .ref q9, .ref q12, .ref q15, .null])), (q1, .inl (cA2, 900, .inr (.inr (.inr (.inr (fun _ => none)))))), (q18, .inr (1, [.null, .int 0, .int 0]))] H := hP
  have hD : va_D A [(h0, .inr (8, [.ref q1, .ref q3, .ref q5, .ref q7, .int 0, .int 0, .int 1, .int 1, .long 0, .ref q9, .ref q12, .ref q15, .null])), (q1, .inl (cA2, 900, .inr (.inr (.inr (.inr (fun _ => none)))))), (q18, .inr (1, [.null, .int 0, .int 0]))] := hD
  refine W.widen (k := 11) (n := 1142) (by omega) (by omega) ?_
  refine lv_dup hx hb dX8_init_106 rfl ?_
  have hPc := hP.sub (ws' := [(q18, .inr (1, [.null, .int 0, .int 0]))]) [2] rfl
  have hDc := hD.sub (ws' := [(q18, .inr (1, [.null, .int 0, .int 0]))]) [2] (by decide) rfl
  have hKc := hK.sub (tys' := []) [] rfl
  have hFc := va_free (wc := [(q18, .inr (1, [.null, .int 0, .int 0]))]) hD hS hA [2] rfl
  refine va_callv (va_runIN (As := []) (rest := [.ref q18, .ref h0]) ⟨hx, hb, hml, hown, hts⟩ (c_X1_init l D q18 _) ⟨va_cnB 0 hts gX8_init_X1_init_n60 rfl rfl rfl (hE.nest_RX8_60) (hts (.initialized RX1) (by decide +kernel)) (by decide +kernel) ⟨Nat.le_of_ble_eq_true rfl, Nat.le_of_ble_eq_true rfl⟩, rfl, (hts (.instanceMethod yX1_init) (by decide +kernel))⟩ ⟨hm_blind, hm_pre hPc hKc hDc hE⟩ rfl rfl hl.1 rfl (lv_room (Nat.le_of_ble_eq_true rfl)) dX8_init_107 ⟨(Nat.le_of_ble_eq_true rfl), (Nat.le_of_ble_eq_true rfl)⟩) hS (fun q _ h => hFc q h) hFc (fun u t H1 locs ht hvm hw hB hz1 hk1 hS => ?_)
  obtain ⟨q19, hP1, hK1, hD1⟩ := hB
  rw [ht] at hP1
  have hK1 := va_K.moved hvm.symm hK1
  obtain ⟨hP, hD⟩ := va_join (wr := [(h0, .inr (8, [.ref q1, .ref q3, .ref q5, .ref q7, .int 0, .int 0, .int 1, .int 1, .long 0, .ref q9, .ref q12, .ref q15, .null])), (q1, .inl (cA2, 900, .inr (.inr (.inr (.inr (fun _ => none))))))]) (w1 := [(q18, .inr (1, [.ref q19, .int 0, .int 1]))]) hP hD [2] [0, 1] rfl rfl (by decide) (by decide) hk1 hFc hP1 hD1
  have hK := (hK.sub (tys' := [(cA2, .object RX0)]) [0] rfl).app hK1
  generalize H1 = H at hP hS ⊢
  have hP : va_P D vwCl [(h0, .inr (8, [.ref q1, .ref q3, .ref q5, .ref q7, .int 0, .int 0, .int 1, .int 1, .long 0, .ref q9, .ref q12, .ref q15, .null])), (q1, .inl (cA2, 900, .inr (.inr (.inr (.inr (fun _ => none)))))), (q18, .inr (1, [.ref q19, .int 0, .int 1]))] H := hP
  have hD : va_D A [(h0, .inr (8, [.ref q1, .ref q3, .ref q5, .ref q7, .int 0, .int 0, .int 1, .int 1, .long 0, .ref q9, .ref q12, .ref q15, .null])), (q1, .inl (cA2, 900, .inr (.inr (.inr (.inr (fun _ => none)))))), (q18, .inr (1, [.ref q19, .int 0, .int 1]))] := hD
  have hK : va_K D vwCl [(cA2, .object RX0)] s := hK
  refine W.widen (k := 13) (n := 1177) (by omega) (by omega) ?_
  refine va_putF (D := D) (ci := 8) (v := .ref q18) (ty := .object "HiddenMoves$Divider") (C := RX8) (T := TX8) (N := 13) hx hb hts (by decide +kernel) tyX8 tyX8_ok nmX8 hown hK hP hD hS 0 rfl rfl 12 (by decide) (hts (.fieldLink RX8 61 "HiddenMoves$Solver" "divider" "LHiddenMoves$Divider;") (by decide +kernel)) (fun _ h9 => h9) rfl hin rfl (by decide +kernel) rfl rfl (Nat.le_of_ble_eq_true rfl) dX8_init_110 (fun H locs hP hD hS => ?_)
  have hP : va_P D vwCl [(h0, .inr (8, [.ref q1, .ref q3, .ref q5, .ref q7, .int 0, .int 0, .int 1, .int 1, .long 0, .ref q9, .ref q12, .ref q15, .ref q18])), (q1, .inl (cA2, 900, .inr (.inr (.inr (.inr (fun _ => none)))))), (q18, .inr (1, [.ref q19, .int 0, .int 1]))] H := hP
  have hD : va_D A [(h0, .inr (8, [.ref q1, .ref q3, .ref q5, .ref q7, .int 0, .int 0, .int 1, .int 1, .long 0, .ref q9, .ref q12, .ref q15, .ref q18])), (q1, .inl (cA2, 900, .inr (.inr (.inr (.inr (fun _ => none)))))), (q18, .inr (1, [.ref q19, .int 0, .int 1]))] := hD
  have hP := hP.sub (ws' := [(h0, .inr (8, [.ref q1, .ref q3, .ref q5, .ref q7, .int 0, .int 0, .int 1, .int 1, .long 0, .ref q9, .ref q12, .ref q15, .ref q18])), (q1, .inl (cA2, 900, .inr (.inr (.inr (.inr (fun _ => none))))))]) [0, 1] rfl
  have hD := hD.sub (ws' := [(h0, .inr (8, [.ref q1, .ref q3, .ref q5, .ref q7, .int 0, .int 0, .int 1, .int 1, .long 0, .ref q9, .ref q12, .ref q15, .ref q18])), (q1, .inl (cA2, 900, .inr (.inr (.inr (.inr (fun _ => none))))))]) [0, 1] (by decide) rfl
  have hK := hK.sub (tys' := [(cA2, .object RX0)]) [0] rfl
  refine lv_iconst (v := 0) hx hb dX8_init_113 (by decide) ?_
  refine lv_istore_n (lv' := [(1, .int 0), (0, .ref h0)]) hx hb dX8_init_114 rfl hl (by decide) rfl (fun ls hl => ?_)
  refine hm_loop (σ := (Nat → Option Nat)) 900 (fun i x H locs ls => match x with | fp => va_P D vwCl [(h0, .inr (8, [.ref q1, .ref q3, .ref q5, .ref q7, .int 0, .int 0, .int 1, .int 1, .long 0, .ref q9, .ref q12, .ref q15, .ref q18])), (q1, .inl (cA2, 900, .inr (.inr (.inr (.inr fp)))))] H ∧ va_D A [(h0, .inr (8, [.ref q1, .ref q3, .ref q5, .ref q7, .int 0, .int 0, .int 1, .int 1, .long 0, .ref q9, .ref q12, .ref q15, .ref q18])), (q1, .inl (cA2, 900, .inr (.inr (.inr (.inr fp)))))] ∧ va_S A s.heap H locs ∧ lv_has ls 2 [(1, .int (nI i)), (0, .ref h0)]) (fun i => 13 + 2 * i) (fun i => 1177 + 35 * i) 115 ?_ ?_ ((fun _ => none)) ⟨hP, hD, hS, hl⟩
  · intro x H locs ls hI
    obtain ⟨fp, rfl⟩ : ∃ z, z = x := ⟨_, rfl⟩
    obtain ⟨hP, hD, hS, hl⟩ := hI
    have hP : va_P D vwCl [(h0, .inr (8, [.ref q1, .ref q3, .ref q5, .ref q7, .int 0, .int 0, .int 1, .int 1, .long 0, .ref q9, .ref q12, .ref q15, .ref q18])), (q1, .inl (cA2, 900, .inr (.inr (.inr (.inr fp)))))] H := hP
    have hD : va_D A [(h0, .inr (8, [.ref q1, .ref q3, .ref q5, .ref q7, .int 0, .int 0, .int 1, .int 1, .long 0, .ref q9, .ref q12, .ref q15, .ref q18])), (q1, .inl (cA2, 900, .inr (.inr (.inr (.inr fp)))))] := hD
    have hl : lv_has ls 2 [(1, .int 900), (0, .ref h0)] := hl
    refine W.widen (k := 1813) (n := 32677) (Nat.le_refl _) (Nat.le_refl _) ?_
    refine lv_iload_n hx hb dX8_init_115 rfl (lv_at hl 0 rfl) ?_
    refine lv_sipush (v := (900)) hx hb dX8_init_116 (by decide) ?_
    refine lv_icmp_ge (tgt := 143) hx hb dX8_init_119 (by decide) (fun _ => ?_) (fun c9 => absurd (by decide) c9)
    have hP9 := hP.sub (ws' := [(h0, .inr (8, [.ref q1, .ref q3, .ref q5, .ref q7, .int 0, .int 0, .int 1, .int 1, .long 0, .ref q9, .ref q12, .ref q15, .ref q18]))]) [0] rfl
    have hD9 := hD.sub (ws' := [(h0, .inr (8, [.ref q1, .ref q3, .ref q5, .ref q7, .int 0, .int 0, .int 1, .int 1, .long 0, .ref q9, .ref q12, .ref q15, .ref q18]))]) [0] (by decide) rfl
    have hK9 := hK.sub (tys' := []) [] rfl
    refine W.widen (k := 1813) (n := 32677) (by omega) (by omega) ?_
    exact W.vret hx hb hr (fun t ht hW => ⟨⟨(), rfl, trivial, q1, q3, q5, q7, q9, q12, q15, q18, by rw [ht]; exact hP9, va_K.moved hW.alike hK9, hD9⟩, hS.F ht⟩) hS.2.2 dX8_init_143
  · intro i x H locs ls hi hI ih
    obtain ⟨fp, rfl⟩ : ∃ z, z = x := ⟨_, rfl⟩
    obtain ⟨hP, hD, hS, hl⟩ := hI
    have hP : va_P D vwCl [(h0, .inr (8, [.ref q1, .ref q3, .ref q5, .ref q7, .int 0, .int 0, .int 1, .int 1, .long 0, .ref q9, .ref q12, .ref q15, .ref q18])), (q1, .inl (cA2, 900, .inr (.inr (.inr (.inr fp)))))] H := hP
    have hD : va_D A [(h0, .inr (8, [.ref q1, .ref q3, .ref q5, .ref q7, .int 0, .int 0, .int 1, .int 1, .long 0, .ref q9, .ref q12, .ref q15, .ref q18])), (q1, .inl (cA2, 900, .inr (.inr (.inr (.inr fp)))))] := hD
    have hl : lv_has ls 2 [(1, .int (nI i)), (0, .ref h0)] := hl
    refine W.widen (k := 13 + 2 * i) (n := 1177 + 35 * i) (Nat.le_refl _) (Nat.le_refl _) ?_
    refine lv_iload_n hx hb dX8_init_115 rfl (lv_at hl 0 rfl) ?_
    refine lv_sipush (v := (900)) hx hb dX8_init_116 (by decide) ?_
    refine lv_icmp_ge (tgt := 143) hx hb dX8_init_119 (by decide) (fun c9 => absurd c9 (nI_ge (b := 900) hi (by decide))) (fun _ => ?_)
    refine lv_aload_n hx hb dX8_init_122 rfl (lv_at hl 1 rfl) ?_
    refine va_get (D := D) (ci := 8) (v := .ref q1) (C := RX8) (T := TX8) (N := 13) hx hb hts (by decide +kernel) hown hK hP 0 rfl rfl 0 (by decide) (hts (.fieldLink RX8 13 "HiddenMoves$Solver" "cells" "[LHiddenMoves$Big;") (by decide +kernel)) (fun _ h9 => h9) rfl dX8_init_123 ?_
    refine lv_iload_n hx hb dX8_init_126 rfl (lv_at hl 0 rfl) ?_
    refine va_new (ci := 0) (fs := [.null, .int 0, .int 0]) (C := RX0) (T := TX0) (N := 3) hx hb hts (by decide +kernel) tyX0 tyX0_ok hown (hts (.classLink RX8 11 RX0) (by decide +kernel)) (hts (.instantiable RX0 3) (by decide +kernel)) (hts (.initialized RX0) (by decide +kernel)) hK hP hD hS hA rfl (fun j hj => by rcases (show j = 0 ∨ j = 1 ∨ j = 2 by omega) with rfl | rfl | rfl <;> rfl) (by show 13 + 2 * i + 1 ≤ 1813; omega) (by show 1177 + 35 * i + 3 ≤ 32677; omega) dX8_init_127 (fun q20 H hP hD hS => ?_)
    have hP : va_P D vwCl [(h0, .inr (8, [.ref q1, .ref q3, .ref q5, .ref q7, .int 0, .int 0, .int 1, .int 1, .long 0, .ref q9, .ref q12, .ref q15, .ref q18])), (q1, .inl (cA2, 900, .inr (.inr (.inr (.inr fp))))), (q20, .inr (0, [.null, .int 0, .int 0]))] H := hP
    have hD : va_D A [(h0, .inr (8, [.ref q1, .ref q3, .ref q5, .ref q7, .int 0, .int 0, .int 1, .int 1, .long 0, .ref q9, .ref q12, .ref q15, .ref q18])), (q1, .inl (cA2, 900, .inr (.inr (.inr (.inr fp))))), (q20, .inr (0, [.null, .int 0, .int 0]))] := hD
    refine W.widen (k := 13 + 2 * i + 1) (n := 1177 + 35 * i + 3) (by omega) (by omega) ?_
    refine lv_dup hx hb dX8_init_130 rfl ?_
    refine lv_bipush (v := (32)) hx hb dX8_init_131 (by decide) ?_
    have hPc := hP.sub (ws' := [(q20, .inr (0, [.null, .int 0, .int 0]))]) [2] rfl
    have hDc := hD.sub (ws' := [(q20, .inr (0, [.null, .int 0, .int 0]))]) [2] (by decide) rfl
    have hKc := hK.sub (tys' := []) [] rfl
    have hFc := va_free (wc := [(q20, .inr (0, [.null, .int 0, .int 0]))]) hD hS hA [2] rfl
    refine va_callv (va_runI (As := [.int 32]) (rest := [.ref q20, .int (nI i), .ref q1]) ⟨hx, hb, hml, hown, hts⟩ (c_X0_init_32 l D q20 _) (cwI 1 hts gX8_init_X0_init rfl rfl rfl (hts (.initialized RX0) (by decide +kernel)) (hts (.methodLink RX8 45 yX0_init) (by decide +kernel)) (hts (.instanceMethod yX0_init) (by decide +kernel)) rfl (by decide +kernel) ⟨Nat.le_of_ble_eq_true rfl, Nat.le_of_ble_eq_true rfl⟩) ⟨hm_blind, hm_pre hPc hKc hDc hE⟩ rfl rfl hl.1 rfl (lv_room (Nat.le_of_ble_eq_true rfl)) dX8_init_133 ⟨(by show 13 + 2 * i + 1 + 1 ≤ 1813; omega), (by show 1177 + 35 * i + 3 + 32 ≤ 32677; omega)⟩) hS (fun q _ h => hFc q h) hFc (fun u t H1 locs ht hvm hw hB hz1 hk1 hS => ?_)
    obtain ⟨q21, cA22, hP1, hK1, hD1⟩ := hB
    rw [ht] at hP1
    have hK1 := va_K.moved hvm.symm hK1
    obtain ⟨hP, hD⟩ := va_join (wr := [(h0, .inr (8, [.ref q1, .ref q3, .ref q5, .ref q7, .int 0, .int 0, .int 1, .int 1, .long 0, .ref q9, .ref q12, .ref q15, .ref q18])), (q1, .inl (cA2, 900, .inr (.inr (.inr (.inr fp)))))]) (w1 := [(q20, .inr (0, [.ref q21, .int 0, .int 0])), (q21, .inl (cA22, 32, .inl (fun _ => 0)))]) hP hD [2] [0, 1] rfl rfl (by decide) (by decide) hk1 hFc hP1 hD1
    have hK := (hK.sub (tys' := [(cA2, .object RX0)]) [0] rfl).app hK1
    generalize H1 = H at hP hS ⊢
    have hP : va_P D vwCl [(h0, .inr (8, [.ref q1, .ref q3, .ref q5, .ref q7, .int 0, .int 0, .int 1, .int 1, .long 0, .ref q9, .ref q12, .ref q15, .ref q18])), (q1, .inl (cA2, 900, .inr (.inr (.inr (.inr fp))))), (q20, .inr (0, [.ref q21, .int 0, .int 0])), (q21, .inl (cA22, 32, .inl (fun _ => 0)))] H := hP
    have hD : va_D A [(h0, .inr (8, [.ref q1, .ref q3, .ref q5, .ref q7, .int 0, .int 0, .int 1, .int 1, .long 0, .ref q9, .ref q12, .ref q15, .ref q18])), (q1, .inl (cA2, 900, .inr (.inr (.inr (.inr fp))))), (q20, .inr (0, [.ref q21, .int 0, .int 0])), (q21, .inl (cA22, 32, .inl (fun _ => 0)))] := hD
    have hK : va_K D vwCl [(cA2, .object RX0), (cA22, .int)] s := hK
    refine W.widen (k := 13 + 2 * i + 1 + 1) (n := 1177 + 35 * i + 3 + 32) (by omega) (by omega) ?_
    refine va_astq hx hb hK hP hD hS 1 0 2 0 rfl rfl rfl rfl (vp_in_nI hi (by omega)) dX8_init_136 (fun H locs hP hD hS => ?_)
    have hP : va_P D vwCl [(h0, .inr (8, [.ref q1, .ref q3, .ref q5, .ref q7, .int 0, .int 0, .int 1, .int 1, .long 0, .ref q9, .ref q12, .ref q15, .ref q18])), (q1, .inl (cA2, 900, .inr (.inr (.inr (.inr (va_up fp (nI i).toNatClampNeg (some q20))))))), (q20, .inr (0, [.ref q21, .int 0, .int 0])), (q21, .inl (cA22, 32, .inl (fun _ => 0)))] H := hP
    have hD : va_D A [(h0, .inr (8, [.ref q1, .ref q3, .ref q5, .ref q7, .int 0, .int 0, .int 1, .int 1, .long 0, .ref q9, .ref q12, .ref q15, .ref q18])), (q1, .inl (cA2, 900, .inr (.inr (.inr (.inr (va_up fp (nI i).toNatClampNeg (some q20))))))), (q20, .inr (0, [.ref q21, .int 0, .int 0])), (q21, .inl (cA22, 32, .inl (fun _ => 0)))] := hD
    have hP := hP.sub (ws' := [(h0, .inr (8, [.ref q1, .ref q3, .ref q5, .ref q7, .int 0, .int 0, .int 1, .int 1, .long 0, .ref q9, .ref q12, .ref q15, .ref q18])), (q1, .inl (cA2, 900, .inr (.inr (.inr (.inr (va_up fp (nI i).toNatClampNeg (some q20)))))))]) [0, 1] rfl
    have hD := hD.sub (ws' := [(h0, .inr (8, [.ref q1, .ref q3, .ref q5, .ref q7, .int 0, .int 0, .int 1, .int 1, .long 0, .ref q9, .ref q12, .ref q15, .ref q18])), (q1, .inl (cA2, 900, .inr (.inr (.inr (.inr (va_up fp (nI i).toNatClampNeg (some q20)))))))]) [0, 1] (by decide) rfl
    have hK := hK.sub (tys' := [(cA2, .object RX0)]) [0] rfl
    refine lv_iinc (v := nI (i + 1)) (lv' := [(1, .int (nI (i + 1))), (0, .ref h0)]) hx hb dX8_init_137 hl (k := 0) rfl (nI_1 i) (by decide) rfl (fun ls hl => ?_)
    refine lv_goto (tgt := 115) hx hb dX8_init_140 (by decide) ?_
    have hP := hP.sub (ws' := [(h0, .inr (8, [.ref q1, .ref q3, .ref q5, .ref q7, .int 0, .int 0, .int 1, .int 1, .long 0, .ref q9, .ref q12, .ref q15, .ref q18])), (q1, .inl (cA2, 900, .inr (.inr (.inr (.inr (va_up fp (nI i).toNatClampNeg (some q20)))))))]) [0, 1] rfl
    have hD := hD.sub (ws' := [(h0, .inr (8, [.ref q1, .ref q3, .ref q5, .ref q7, .int 0, .int 0, .int 1, .int 1, .long 0, .ref q9, .ref q12, .ref q15, .ref q18])), (q1, .inl (cA2, 900, .inr (.inr (.inr (.inr (va_up fp (nI i).toNatClampNeg (some q20)))))))]) [0, 1] (by decide) rfl
    refine W.widen (k := 13 + 2 * (i + 1)) (n := 1177 + 35 * (i + 1)) (by omega) (by omega) ?_
    exact ih ((va_up fp (nI i).toNatClampNeg (some q20))) _ _ _ ⟨hP, hD, hS, lv_sub hl [0, 1] rfl⟩
