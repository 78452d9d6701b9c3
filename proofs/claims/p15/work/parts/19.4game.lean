theorem hm_vr (e : va_E) (L : List Nat) : vr_up (fun _ => e) L e = (fun _ => e) := by
  funext j
  simp [vr_up]
section HMJ
variable {args : Array Value} {s : State}
theorem hm_kJ {ty : FieldType} (h : (Cond.arrayClass ty).before args s = true) : ∃ cJ : ClassId, s.vm.findClass ("[" ++ ty.toString) = some cJ ∧ ArrOfT s cJ ty := by
  obtain ⟨c, k, comp, h1, h2, h3⟩ := Cond.arrayClass_spec h
  exact ⟨c, h1, fun n z => ⟨fun k h => (by cases h), k, h2, comp, h3⟩⟩
end HMJ
set_option maxHeartbeats 4000000 in
set_option maxRecDepth 100000 in
/-- Game() -/
theorem n_X2_init (l : Launch) (D : va_G) (C : Nat → ClassId) (h0 sz : Nat) : Met l yX2_init wsX2_init ({ frames := 2, cells := 37, slots := 562, locals := 32 }) (va_Pc [.ref h0] (hm_P D [(h0, .inr (2, [.null, .null, .long 0, .null]))] (cw_t C) sz)) (va_Qv (fun _ : Unit => True) (fun _ t => ∃ (L : List Nat) (G : Nat → cG), cc_R L G 2 h0 ∧ hm_B D (va_A [(h0, .inr (2, [.null, .null, .long 0, .null]))] sz) (cc_w C L G) (cw_t C) t) (va_A [(h0, .inr (2, [.null, .null, .long 0, .null]))] sz)) 37 562 (va_A [(h0, .inr (2, [.null, .null, .long 0, .null]))] sz) := by
  refine Met.ofW (cc := cX2_init) (maxL := 2) (ret := none) (by decide) rfl ?_
  intro p e s m args below meth c s₁ B hml hv
  obtain ⟨rfl, hsz, hP, hK, hD0, hE⟩ := hv
  have hx := B.exec
  have hb := B.bytes
  have hr := B.returns
  have hts := atoms_spec (ws := wsX2_init) B.pre
  have hown : s.vm.findClass RX2 = some m.cls := findClass_of_methodNamed B.named
  have hlocks := B.notSynchronized
  have hin : meth.name = "<init>" := (name_of_methodNamed B.named B.method).1
  subst hsz
  have hD := hD0.self (sz := s.heap.size)
  generalize hAe : va_A [(h0, .inr (2, [.null, .null, .long 0, .null]))] s.heap.size = A at hD ⊢
  have hA : ∀ q : Nat, s.heap.size ≤ q → A q := fun q h => by rw [← hAe]; exact Or.inr h
  have hS : va_S A s.heap s.heap [] := va_S.rf
  have hP : va_P D vwCl [(h0, .inr (2, [.null, .null, .long 0, .null]))] s.heap := hP
  have hl := lv_entry ([.ref h0]) (n := 2) (Nat.le_of_ble_eq_true rfl)
  rw [lg_entry_eq]
  generalize (lg_sl ([.ref h0]) ++ List.replicate (2 - (lg_sl ([.ref h0])).length) Slot.unset).toArray = ls at hl ⊢
  have hl : lv_has ls 2 [(0, .ref h0)] := hl
  obtain ⟨G0, -⟩ : ∃ G : Nat → cG, True := ⟨fun _ => (.inl 0, fun _ => 0, fun _ => 0, fun _ => 0), trivial⟩
  have hU0 := cc_U_nil G0
  have hP : va_P D vwCl (([(h0, .inr (2, [.null, .null, .long 0, .null]))] : va_W) ++ (cc_w C [] G0 ++ ([] : va_W))) s.heap := hP
  have hD : va_D A (([(h0, .inr (2, [.null, .null, .long 0, .null]))] : va_W) ++ (cc_w C [] G0 ++ ([] : va_W))) := hD
  refine lv_aload_n hx hb dX2_init_0 rfl (lv_at hl 0 rfl) ?_
  refine W.objInit hx hb hown (hts (.methodLink RX2 3 objectInit) (List.mem_cons_of_mem _ (List.mem_append_left _ (List.mem_append_left _ (List.mem_of_getElem? (i := 0) rfl))))) (hts (.instanceMethod objectInit) (List.mem_cons_of_mem _ (List.mem_append_left _ (List.mem_append_left _ (List.mem_of_getElem? (i := 1) rfl))))) (hts _ (List.mem_of_getElem? (i := 3) rfl)) rfl (by rw [hml]; exact hl.1) rfl dX2_init_1 (Nat.le_of_ble_eq_true rfl) (Nat.le_of_ble_eq_true rfl) ?_
  refine W.eq (g2 := F0 m 4 ls []) rfl ?_
  refine lv_aload_n hx hb dX2_init_4 rfl (lv_at hl 0 rfl) ?_
  refine lv_iconst (v := 4) hx hb dX2_init_5 (by decide) ?_
  refine va_newa (atype := .int) (ty := .int) (N' := 4) (a0 := (4, .inl (fun _ => 0))) hx hb (hts (.arrayClass .int) (List.mem_cons_of_mem _ (List.mem_append_left _ (List.mem_append_left _ (List.mem_of_getElem? (i := 3) rfl))))) rfl hK hP hD hS hA (fun cA => vp_cell_i cA 4 (fun _ => 0)) (by decide) (by decide) (by decide) (Nat.le_of_ble_eq_true rfl) (Nat.le_of_ble_eq_true rfl) dX2_init_6 (fun q1 cA2 H hK9 hP hD hS => ?_)
  have e9 := cc_cA hK9 0 rfl
  subst e9
  have hP := va_P.swap hP
  have hD := va_D.swap hD
  have hP : va_P D vwCl (([(h0, .inr (2, [.null, .null, .long 0, .null])), (q1, .inl ((C 0), 4, .inl (fun _ => 0)))] : va_W) ++ (cc_w C [] G0 ++ ([] : va_W))) H := hP
  have hD : va_D A (([(h0, .inr (2, [.null, .null, .long 0, .null])), (q1, .inl ((C 0), 4, .inl (fun _ => 0)))] : va_W) ++ (cc_w C [] G0 ++ ([] : va_W))) := hD
  refine W.widen (k := 1) (n := 4) (by omega) (by omega) ?_
  refine va_putF (D := D) (ci := 2) (v := .ref q1) (ty := .array .int) (C := RX2) (T := TX2) (N := 4) hx hb hts (fun w h => List.mem_cons_of_mem _ (List.mem_append_left _ (List.mem_append_right _ (h)))) tyX2 tyX2_ok nmX2 hown hK hP hD hS 0 rfl rfl 0 (by decide) (hts (.fieldLink RX2 11 "HiddenMoves$Game" "counts" "[I") (List.mem_cons_of_mem _ (List.mem_append_left _ (List.mem_append_left _ (List.mem_of_getElem? (i := 4) rfl))))) (fun _ h9 => h9) rfl hin rfl (by decide +kernel) rfl rfl (Nat.le_of_ble_eq_true rfl) dX2_init_8 (fun H locs hP hD hS => ?_)
  have hP : va_P D vwCl (([(h0, .inr (2, [.ref q1, .null, .long 0, .null])), (q1, .inl ((C 0), 4, .inl (fun _ => 0)))] : va_W) ++ (cc_w C [] G0 ++ ([] : va_W))) H := hP
  have hD : va_D A (([(h0, .inr (2, [.ref q1, .null, .long 0, .null])), (q1, .inl ((C 0), 4, .inl (fun _ => 0)))] : va_W) ++ (cc_w C [] G0 ++ ([] : va_W))) := hD
  refine lv_aload_n hx hb dX2_init_11 rfl (lv_at hl 0 rfl) ?_
  refine lv_iconst (v := 2) hx hb dX2_init_12 (by decide) ?_
  refine va_newq (N' := 2) hx hb hown (hts (.classLink RX2 15 RX7) (List.mem_cons_of_mem _ (List.mem_append_left _ (List.mem_append_left _ (List.mem_of_getElem? (i := 5) rfl))))) hE.ao_RX7 hK hP hD hS hA (by decide) (by decide) (by decide) (Nat.le_of_ble_eq_true rfl) (Nat.le_of_ble_eq_true rfl) dX2_init_13 (fun q3 cA4 H hK9 hP hD hS => ?_)
  have e9 := cc_cA hK9 7 rfl
  subst e9
  have hP := va_P.swap hP
  have hD := va_D.swap hD
  have hP : va_P D vwCl (([(h0, .inr (2, [.ref q1, .null, .long 0, .null])), (q1, .inl ((C 0), 4, .inl (fun _ => 0))), (q3, .inl ((C 7), 2, .inr (.inr (.inr (.inr (fun _ => none))))))] : va_W) ++ (cc_w C [] G0 ++ ([] : va_W))) H := hP
  have hD : va_D A (([(h0, .inr (2, [.ref q1, .null, .long 0, .null])), (q1, .inl ((C 0), 4, .inl (fun _ => 0))), (q3, .inl ((C 7), 2, .inr (.inr (.inr (.inr (fun _ => none))))))] : va_W) ++ (cc_w C [] G0 ++ ([] : va_W))) := hD
  refine W.widen (k := 2) (n := 6) (by omega) (by omega) ?_
  refine va_putF (D := D) (ci := 2) (v := .ref q3) (ty := .array (.object "HiddenMoves$Side")) (C := RX2) (T := TX2) (N := 4) hx hb hts (fun w h => List.mem_cons_of_mem _ (List.mem_append_left _ (List.mem_append_right _ (h)))) tyX2 tyX2_ok nmX2 hown hK hP hD hS 0 rfl rfl 1 (by decide) (hts (.fieldLink RX2 17 "HiddenMoves$Game" "sides" "[LHiddenMoves$Side;") (List.mem_cons_of_mem _ (List.mem_append_left _ (List.mem_append_left _ (List.mem_of_getElem? (i := 6) rfl))))) (fun _ h9 => h9) rfl hin rfl (by decide +kernel) rfl rfl (Nat.le_of_ble_eq_true rfl) dX2_init_16 (fun H locs hP hD hS => ?_)
  have hP : va_P D vwCl (([(h0, .inr (2, [.ref q1, .ref q3, .long 0, .null])), (q1, .inl ((C 0), 4, .inl (fun _ => 0))), (q3, .inl ((C 7), 2, .inr (.inr (.inr (.inr (fun _ => none))))))] : va_W) ++ (cc_w C [] G0 ++ ([] : va_W))) H := hP
  have hD : va_D A (([(h0, .inr (2, [.ref q1, .ref q3, .long 0, .null])), (q1, .inl ((C 0), 4, .inl (fun _ => 0))), (q3, .inl ((C 7), 2, .inr (.inr (.inr (.inr (fun _ => none))))))] : va_W) ++ (cc_w C [] G0 ++ ([] : va_W))) := hD
  refine lv_aload_n hx hb dX2_init_19 rfl (lv_at hl 0 rfl) ?_
  refine lv_lconst (v := 1) hx hb dX2_init_20 (by decide) ?_
  refine va_put (D := D) (ci := 2) (v := .long 1) (ty := .long) (C := RX2) (T := TX2) (N := 4) hx hb hts (fun w h => List.mem_cons_of_mem _ (List.mem_append_left _ (List.mem_append_right _ (h)))) tyX2 tyX2_ok nmX2 hown hK hP hD hS 0 rfl rfl 2 (by decide) (hts (.fieldLink RX2 21 "HiddenMoves$Game" "common" "J") (List.mem_cons_of_mem _ (List.mem_append_left _ (List.mem_append_left _ (List.mem_of_getElem? (i := 7) rfl))))) (fun _ h9 => h9) rfl (by decide +kernel) rfl rfl (Nat.le_of_ble_eq_true rfl) dX2_init_21 (fun H locs hP hD hS => ?_)
  have hP : va_P D vwCl (([(h0, .inr (2, [.ref q1, .ref q3, .long 1, .null])), (q1, .inl ((C 0), 4, .inl (fun _ => 0))), (q3, .inl ((C 7), 2, .inr (.inr (.inr (.inr (fun _ => none))))))] : va_W) ++ (cc_w C [] G0 ++ ([] : va_W))) H := hP
  have hD : va_D A (([(h0, .inr (2, [.ref q1, .ref q3, .long 1, .null])), (q1, .inl ((C 0), 4, .inl (fun _ => 0))), (q3, .inl ((C 7), 2, .inr (.inr (.inr (.inr (fun _ => none))))))] : va_W) ++ (cc_w C [] G0 ++ ([] : va_W))) := hD
  refine lv_aload_n hx hb dX2_init_24 rfl (lv_at hl 0 rfl) ?_
  refine lv_bipush (v := (20)) hx hb dX2_init_25 (by decide) ?_
  refine lv_bipush (v := (20)) hx hb dX2_init_27 (by decide) ?_
  obtain ⟨cJ, hcJ, hAJ⟩ := hm_kJ (ty := .long) (hts (.arrayClass .long) (List.mem_cons_of_mem _ (List.mem_append_left _ (List.mem_append_left _ (List.mem_of_getElem? (i := 9) rfl)))))
  have e9 : cJ = C 1 := Option.some.inj (hcJ.symm.trans (hK.2 1 (C 1, .long) rfl).2)
  subst e9
  refine va_mna (X := [(h0, .inr (2, [.ref q1, .ref q3, .long 1, .null])), (q1, .inl ((C 0), 4, .inl (fun _ => 0))), (q3, .inl ((C 7), 2, .inr (.inr (.inr (.inr (fun _ => none))))))]) (L := []) (f := fun _ => .inl ((C 1), 20, .inr (.inl (fun _ => 0)))) (z := (20, .inr (.inl (fun _ => 0)))) (ty := .long) (cy := C 1) (N' := 20) (K' := 20) hx hb hown (by rw [show "[" ++ (FieldType.array FieldType.long).toString = "[[J" from by decide]; exact (hts (.classLink RX2 25 "[[J") (List.mem_cons_of_mem _ (List.mem_append_left _ (List.mem_append_left _ (List.mem_of_getElem? (i := 8) rfl)))))) hE.aoa_long (hts (.arrayClass .long) (List.mem_cons_of_mem _ (List.mem_append_left _ (List.mem_append_left _ (List.mem_of_getElem? (i := 9) rfl))))) hcJ hK hP hD hS hA (by decide) (by decide) (by decide) (by decide) (by decide) (by decide) (by decide) rfl rfl (Nat.le_of_ble_eq_true rfl) (Nat.le_of_ble_eq_true rfl) (fun c => arrV_new c 20 (.long 0)) dX2_init_29 (fun q5 rr6 cA9 H hri _ hK9 hP hD hS => ?_)
  have e9 := cc_cA hK9 10 rfl
  subst e9
  rw [hm_vr] at hP hD
  rw [List.nil_append] at hP hD
  obtain ⟨L1, eL1⟩ : ∃ L1 : List Nat, L1 = ((List.range 20).map rr6) := ⟨_, rfl⟩
  obtain ⟨G1, eG1⟩ : ∃ G1 : Nat → cG, G1 = (fun _ => (.inr (.inl (1, 20)), fun _ => 0, fun _ => 0, fun _ => 0)) := ⟨_, rfl⟩
  have hU1 : cc_U L1 G1 (fun b o => ∃ i, i < 20 ∧ b = rr6 i ∧ o = (q5, i)) := by rw [eL1, eG1]; exact cc_U_rows hri
  have hrows : ∀ i, i < 20 → rr6 i ∈ L1 ∧ gK G1 (rr6 i) = .inr (.inl (1, 20)) := fun i hi => ⟨by rw [eL1]; exact List.mem_map_of_mem (List.mem_range.mpr hi), by rw [eG1]; rfl⟩
  have hP : va_P D vwCl (([(h0, .inr (2, [.ref q1, .ref q3, .long 1, .null])), (q1, .inl ((C 0), 4, .inl (fun _ => 0))), (q3, .inl ((C 7), 2, .inr (.inr (.inr (.inr (fun _ => none)))))), (q5, .inl ((C 10), 20, .inr (.inr (.inr (.inr (fun i => if i < 20 then some (rr6 i) else none))))))] : va_W) ++ (cc_w C L1 G1 ++ ([] : va_W))) H := by rw [List.append_nil, eL1, eG1]; exact hP
  have hD : va_D A (([(h0, .inr (2, [.ref q1, .ref q3, .long 1, .null])), (q1, .inl ((C 0), 4, .inl (fun _ => 0))), (q3, .inl ((C 7), 2, .inr (.inr (.inr (.inr (fun _ => none)))))), (q5, .inl ((C 10), 20, .inr (.inr (.inr (.inr (fun i => if i < 20 then some (rr6 i) else none))))))] : va_W) ++ (cc_w C L1 G1 ++ ([] : va_W))) := by rw [List.append_nil, eL1, eG1]; exact hD
  refine W.widen (k := 23) (n := 426) (by omega) (by omega) ?_
  refine va_putF (D := D) (ci := 2) (v := .ref q5) (ty := .array (.array .long)) (C := RX2) (T := TX2) (N := 4) hx hb hts (fun w h => List.mem_cons_of_mem _ (List.mem_append_left _ (List.mem_append_right _ (h)))) tyX2 tyX2_ok nmX2 hown hK hP hD hS 0 rfl rfl 3 (by decide) (hts (.fieldLink RX2 27 "HiddenMoves$Game" "weights" "[[J") (List.mem_cons_of_mem _ (List.mem_append_left _ (List.mem_append_left _ (List.mem_of_getElem? (i := 10) rfl))))) (fun _ h9 => h9) rfl hin rfl (by decide +kernel) rfl rfl (Nat.le_of_ble_eq_true rfl) dX2_init_33 (fun H locs hP hD hS => ?_)
  have hP : va_P D vwCl (([(h0, .inr (2, [.ref q1, .ref q3, .long 1, .ref q5])), (q1, .inl ((C 0), 4, .inl (fun _ => 0))), (q3, .inl ((C 7), 2, .inr (.inr (.inr (.inr (fun _ => none)))))), (q5, .inl ((C 10), 20, .inr (.inr (.inr (.inr (fun i => if i < 20 then some (rr6 i) else none))))))] : va_W) ++ (cc_w C L1 G1 ++ ([] : va_W))) H := hP
  have hD : va_D A (([(h0, .inr (2, [.ref q1, .ref q3, .long 1, .ref q5])), (q1, .inl ((C 0), 4, .inl (fun _ => 0))), (q3, .inl ((C 7), 2, .inr (.inr (.inr (.inr (fun _ => none)))))), (q5, .inl ((C 10), 20, .inr (.inr (.inr (.inr (fun i => if i < 20 then some (rr6 i) else none))))))] : va_W) ++ (cc_w C L1 G1 ++ ([] : va_W))) := hD
  refine lv_iconst (v := 0) hx hb dX2_init_36 (by decide) ?_
  refine lv_istore_n (lv' := [(1, .int 0), (0, .ref h0)]) hx hb dX2_init_37 rfl hl (by decide) rfl (fun ls hl => ?_)
  refine lv_iload_n hx hb dX2_init_38 rfl (lv_at hl 0 rfl) ?_
  refine lv_iconst (v := 2) hx hb dX2_init_39 (by decide) ?_
  refine lv_icmp_ge (tgt := 62) hx hb dX2_init_40 (by decide) (fun c9 => absurd c9 (by decide)) (fun _ => ?_)
  refine lv_aload_n hx hb dX2_init_43 rfl (lv_at hl 1 rfl) ?_
  refine va_get (D := D) (ci := 2) (v := .ref q3) (C := RX2) (T := TX2) (N := 4) hx hb hts (fun w h => List.mem_cons_of_mem _ (List.mem_append_left _ (List.mem_append_right _ (h)))) hown hK hP 0 rfl rfl 1 (by decide) (hts (.fieldLink RX2 17 "HiddenMoves$Game" "sides" "[LHiddenMoves$Side;") (List.mem_cons_of_mem _ (List.mem_append_left _ (List.mem_append_left _ (List.mem_of_getElem? (i := 6) rfl))))) (fun _ h9 => h9) rfl dX2_init_44 ?_
  refine lv_iload_n hx hb dX2_init_47 rfl (lv_at hl 0 rfl) ?_
  refine va_new (ci := 7) (fs := [.int 0, .null, .null, .null, .null, .int 0, .null, .null]) (C := RX7) (T := TX7) (N := 8) hx hb hts (fun w h => List.mem_cons_of_mem _ (List.mem_append_right _ (h))) tyX7 tyX7_ok hown (hts (.classLink RX2 15 RX7) (List.mem_cons_of_mem _ (List.mem_append_left _ (List.mem_append_left _ (List.mem_of_getElem? (i := 5) rfl))))) (hts (.instantiable RX7 8) (List.mem_cons_of_mem _ (List.mem_append_left _ (List.mem_append_left _ (List.mem_of_getElem? (i := 11) rfl))))) (hts (.initialized RX7) (List.mem_cons_of_mem _ (List.mem_append_left _ (List.mem_append_left _ (List.mem_of_getElem? (i := 12) rfl))))) hK hP hD hS hA rfl (fun j hj => by rcases (show j = 0 ∨ j = 1 ∨ j = 2 ∨ j = 3 ∨ j = 4 ∨ j = 5 ∨ j = 6 ∨ j = 7 by omega) with rfl | rfl | rfl | rfl | rfl | rfl | rfl | rfl <;> rfl) (Nat.le_of_ble_eq_true rfl) (Nat.le_of_ble_eq_true rfl) dX2_init_48 (fun q7 H hP hD hS => ?_)
  have hP := va_P.swap hP
  have hD := va_D.swap hD
  have hP : va_P D vwCl (([(h0, .inr (2, [.ref q1, .ref q3, .long 1, .ref q5])), (q1, .inl ((C 0), 4, .inl (fun _ => 0))), (q3, .inl ((C 7), 2, .inr (.inr (.inr (.inr (fun _ => none)))))), (q5, .inl ((C 10), 20, .inr (.inr (.inr (.inr (fun i => if i < 20 then some (rr6 i) else none)))))), (q7, .inr (7, [.int 0, .null, .null, .null, .null, .int 0, .null, .null]))] : va_W) ++ (cc_w C L1 G1 ++ ([] : va_W))) H := hP
  have hD : va_D A (([(h0, .inr (2, [.ref q1, .ref q3, .long 1, .ref q5])), (q1, .inl ((C 0), 4, .inl (fun _ => 0))), (q3, .inl ((C 7), 2, .inr (.inr (.inr (.inr (fun _ => none)))))), (q5, .inl ((C 10), 20, .inr (.inr (.inr (.inr (fun i => if i < 20 then some (rr6 i) else none)))))), (q7, .inr (7, [.int 0, .null, .null, .null, .null, .int 0, .null, .null]))] : va_W) ++ (cc_w C L1 G1 ++ ([] : va_W))) := hD
  refine W.widen (k := 24) (n := 434) (by omega) (by omega) ?_
  refine lv_dup hx hb dX2_init_51 rfl ?_
  have hPc := hP.sub (ws' := [(q7, .inr (7, [.int 0, .null, .null, .null, .null, .int 0, .null, .null]))]) [4] rfl
  have hDc := hD.sub (ws' := [(q7, .inr (7, [.int 0, .null, .null, .null, .null, .int 0, .null, .null]))]) [4] (by decide) rfl
  have hFc := va_free (wc := [(q7, .inr (7, [.int 0, .null, .null, .null, .null, .int 0, .null, .null]))]) hD hS hA [4] rfl
  refine va_callv (va_runIN (As := []) (rest := [.ref q7, .int 0, .ref q3]) ⟨hx, hb, hml, hown, hts⟩ (n_X7_init l D C q7 _) ⟨va_cnB 0 hts gX2_init_X7_init_n30 rfl rfl rfl (hE.nest_RX2_30) (hts (.initialized RX7) (List.mem_cons_of_mem _ (List.mem_append_left _ (List.mem_append_left _ (List.mem_of_getElem? (i := 12) rfl))))) (by decide +kernel) ⟨Nat.le_of_ble_eq_true rfl, Nat.le_of_ble_eq_true rfl⟩, rfl, (hts (.instanceMethod yX7_init) (List.mem_cons_of_mem _ (List.mem_append_left _ (List.mem_append_left _ (List.mem_of_getElem? (i := 13) rfl)))))⟩ ⟨hm_blind, hm_pre hPc hK hDc hE⟩ rfl rfl hl.1 rfl (lv_room (Nat.le_of_ble_eq_true rfl)) dX2_init_52 ⟨(Nat.le_of_ble_eq_true rfl), (Nat.le_of_ble_eq_true rfl)⟩) hS (fun q _ h => hFc q h) hFc (fun u t H1 locs ht hvm hw hB hz1 hk1 hS => ?_)
  obtain ⟨Lp8, Gp8, hR8, hP1, hK1, hD1⟩ := hB
  rw [ht] at hP1
  obtain ⟨hP, hD⟩ := va_joinQ (X := [(h0, .inr (2, [.ref q1, .ref q3, .long 1, .ref q5])), (q1, .inl ((C 0), 4, .inl (fun _ => 0))), (q3, .inl ((C 7), 2, .inr (.inr (.inr (.inr (fun _ => none)))))), (q5, .inl ((C 10), 20, .inr (.inr (.inr (.inr (fun i => if i < 20 then some (rr6 i) else none)))))), (q7, .inr (7, [.int 0, .null, .null, .null, .null, .int 0, .null, .null]))]) (cx := [(q7, .inr (7, [.int 0, .null, .null, .null, .null, .int 0, .null, .null]))]) (wr := [(h0, .inr (2, [.ref q1, .ref q3, .long 1, .ref q5])), (q1, .inl ((C 0), 4, .inl (fun _ => 0))), (q3, .inl ((C 7), 2, .inr (.inr (.inr (.inr (fun _ => none)))))), (q5, .inl ((C 10), 20, .inr (.inr (.inr (.inr (fun i => if i < 20 then some (rr6 i) else none))))))]) (w1 := cc_w C Lp8 Gp8) (pl := (cc_w C L1 G1 ++ ([] : va_W))) hP hD [4] [0, 1, 2, 3] rfl rfl (by decide) (by decide) hk1 hFc hP1 hD1
  generalize H1 = H at hP hS ⊢
  obtain ⟨Lk2, Gk2, hP, hD, xk2, uk2, ok2, pk2⟩ := cc_joinW (X := [(h0, .inr (2, [.ref q1, .ref q3, .long 1, .ref q5])), (q1, .inl ((C 0), 4, .inl (fun _ => 0))), (q3, .inl ((C 7), 2, .inr (.inr (.inr (.inr (fun _ => none)))))), (q5, .inl ((C 10), 20, .inr (.inr (.inr (.inr (fun i => if i < 20 then some (rr6 i) else none))))))]) hP hD hU1 hR8 (q3, 0)
  have hP : va_P D vwCl (([(h0, .inr (2, [.ref q1, .ref q3, .long 1, .ref q5])), (q1, .inl ((C 0), 4, .inl (fun _ => 0))), (q3, .inl ((C 7), 2, .inr (.inr (.inr (.inr (fun _ => none)))))), (q5, .inl ((C 10), 20, .inr (.inr (.inr (.inr (fun i => if i < 20 then some (rr6 i) else none))))))] : va_W) ++ (cc_w C Lk2 Gk2 ++ ([] : va_W))) H := hP
  have hD : va_D A (([(h0, .inr (2, [.ref q1, .ref q3, .long 1, .ref q5])), (q1, .inl ((C 0), 4, .inl (fun _ => 0))), (q3, .inl ((C 7), 2, .inr (.inr (.inr (.inr (fun _ => none)))))), (q5, .inl ((C 10), 20, .inr (.inr (.inr (.inr (fun i => if i < 20 then some (rr6 i) else none))))))] : va_W) ++ (cc_w C Lk2 Gk2 ++ ([] : va_W))) := hD
  refine W.widen (k := 30) (n := 494) (by omega) (by omega) ?_
  obtain ⟨k9, fs9, hk9⟩ := cc_at (C := C) (X := [(h0, .inr (2, [.ref q1, .ref q3, .long 1, .ref q5])), (q1, .inl ((C 0), 4, .inl (fun _ => 0))), (q3, .inl ((C 7), 2, .inr (.inr (.inr (.inr (fun _ => none)))))), (q5, .inl ((C 10), 20, .inr (.inr (.inr (.inr (fun i => if i < 20 then some (rr6 i) else none))))))]) (T := ([] : va_W)) (L := Lk2) (G := Gk2) ok2
  refine va_astq hx hb hK hP hD hS 2 7 k9 7 rfl rfl hk9 rfl (vp_in_nI (n := 0) (N := 2) (by decide) (by decide)) dX2_init_55 (fun H locs hP hD hS => ?_)
  have hP : va_P D vwCl (([(h0, .inr (2, [.ref q1, .ref q3, .long 1, .ref q5])), (q1, .inl ((C 0), 4, .inl (fun _ => 0))), (q3, .inl ((C 7), 2, .inr (.inr (.inr (.inr (va_up (fun _ => none) 0 (some q7))))))), (q5, .inl ((C 10), 20, .inr (.inr (.inr (.inr (fun i => if i < 20 then some (rr6 i) else none))))))] : va_W) ++ (cc_w C Lk2 Gk2 ++ ([] : va_W))) H := hP
  have hD : va_D A (([(h0, .inr (2, [.ref q1, .ref q3, .long 1, .ref q5])), (q1, .inl ((C 0), 4, .inl (fun _ => 0))), (q3, .inl ((C 7), 2, .inr (.inr (.inr (.inr (va_up (fun _ => none) 0 (some q7))))))), (q5, .inl ((C 10), 20, .inr (.inr (.inr (.inr (fun i => if i < 20 then some (rr6 i) else none))))))] : va_W) ++ (cc_w C Lk2 Gk2 ++ ([] : va_W))) := hD
  refine lv_iinc (v := 1) (lv' := [(1, .int 1), (0, .ref h0)]) hx hb dX2_init_56 hl (k := 0) rfl (by decide) (by decide) rfl (fun ls hl => ?_)
  refine lv_goto (tgt := 38) hx hb dX2_init_59 (by decide) ?_
  refine lv_iload_n hx hb dX2_init_38 rfl (lv_at hl 0 rfl) ?_
  refine lv_iconst (v := 2) hx hb dX2_init_39 (by decide) ?_
  refine lv_icmp_ge (tgt := 62) hx hb dX2_init_40 (by decide) (fun c9 => absurd c9 (by decide)) (fun _ => ?_)
  refine lv_aload_n hx hb dX2_init_43 rfl (lv_at hl 1 rfl) ?_
  refine va_get (D := D) (ci := 2) (v := .ref q3) (C := RX2) (T := TX2) (N := 4) hx hb hts (fun w h => List.mem_cons_of_mem _ (List.mem_append_left _ (List.mem_append_right _ (h)))) hown hK hP 0 rfl rfl 1 (by decide) (hts (.fieldLink RX2 17 "HiddenMoves$Game" "sides" "[LHiddenMoves$Side;") (List.mem_cons_of_mem _ (List.mem_append_left _ (List.mem_append_left _ (List.mem_of_getElem? (i := 6) rfl))))) (fun _ h9 => h9) rfl dX2_init_44 ?_
  refine lv_iload_n hx hb dX2_init_47 rfl (lv_at hl 0 rfl) ?_
  refine va_new (ci := 7) (fs := [.int 0, .null, .null, .null, .null, .int 0, .null, .null]) (C := RX7) (T := TX7) (N := 8) hx hb hts (fun w h => List.mem_cons_of_mem _ (List.mem_append_right _ (h))) tyX7 tyX7_ok hown (hts (.classLink RX2 15 RX7) (List.mem_cons_of_mem _ (List.mem_append_left _ (List.mem_append_left _ (List.mem_of_getElem? (i := 5) rfl))))) (hts (.instantiable RX7 8) (List.mem_cons_of_mem _ (List.mem_append_left _ (List.mem_append_left _ (List.mem_of_getElem? (i := 11) rfl))))) (hts (.initialized RX7) (List.mem_cons_of_mem _ (List.mem_append_left _ (List.mem_append_left _ (List.mem_of_getElem? (i := 12) rfl))))) hK hP hD hS hA rfl (fun j hj => by rcases (show j = 0 ∨ j = 1 ∨ j = 2 ∨ j = 3 ∨ j = 4 ∨ j = 5 ∨ j = 6 ∨ j = 7 by omega) with rfl | rfl | rfl | rfl | rfl | rfl | rfl | rfl <;> rfl) (Nat.le_of_ble_eq_true rfl) (Nat.le_of_ble_eq_true rfl) dX2_init_48 (fun q9 H hP hD hS => ?_)
  have hP := va_P.swap hP
  have hD := va_D.swap hD
  have hP : va_P D vwCl (([(h0, .inr (2, [.ref q1, .ref q3, .long 1, .ref q5])), (q1, .inl ((C 0), 4, .inl (fun _ => 0))), (q3, .inl ((C 7), 2, .inr (.inr (.inr (.inr (va_up (fun _ => none) 0 (some q7))))))), (q5, .inl ((C 10), 20, .inr (.inr (.inr (.inr (fun i => if i < 20 then some (rr6 i) else none)))))), (q9, .inr (7, [.int 0, .null, .null, .null, .null, .int 0, .null, .null]))] : va_W) ++ (cc_w C Lk2 Gk2 ++ ([] : va_W))) H := hP
  have hD : va_D A (([(h0, .inr (2, [.ref q1, .ref q3, .long 1, .ref q5])), (q1, .inl ((C 0), 4, .inl (fun _ => 0))), (q3, .inl ((C 7), 2, .inr (.inr (.inr (.inr (va_up (fun _ => none) 0 (some q7))))))), (q5, .inl ((C 10), 20, .inr (.inr (.inr (.inr (fun i => if i < 20 then some (rr6 i) else none)))))), (q9, .inr (7, [.int 0, .null, .null, .null, .null, .int 0, .null, .null]))] : va_W) ++ (cc_w C Lk2 Gk2 ++ ([] : va_W))) := hD
  refine W.widen (k := 31) (n := 502) (by omega) (by omega) ?_
  refine lv_dup hx hb dX2_init_51 rfl ?_
  have hPc := hP.sub (ws' := [(q9, .inr (7, [.int 0, .null, .null, .null, .null, .int 0, .null, .null]))]) [4] rfl
  have hDc := hD.sub (ws' := [(q9, .inr (7, [.int 0, .null, .null, .null, .null, .int 0, .null, .null]))]) [4] (by decide) rfl
  have hFc := va_free (wc := [(q9, .inr (7, [.int 0, .null, .null, .null, .null, .int 0, .null, .null]))]) hD hS hA [4] rfl
  refine va_callv (va_runIN (As := []) (rest := [.ref q9, .int 1, .ref q3]) ⟨hx, hb, hml, hown, hts⟩ (n_X7_init l D C q9 _) ⟨va_cnB 0 hts gX2_init_X7_init_n30 rfl rfl rfl (hE.nest_RX2_30) (hts (.initialized RX7) (List.mem_cons_of_mem _ (List.mem_append_left _ (List.mem_append_left _ (List.mem_of_getElem? (i := 12) rfl))))) (by decide +kernel) ⟨Nat.le_of_ble_eq_true rfl, Nat.le_of_ble_eq_true rfl⟩, rfl, (hts (.instanceMethod yX7_init) (List.mem_cons_of_mem _ (List.mem_append_left _ (List.mem_append_left _ (List.mem_of_getElem? (i := 13) rfl)))))⟩ ⟨hm_blind, hm_pre hPc hK hDc hE⟩ rfl rfl hl.1 rfl (lv_room (Nat.le_of_ble_eq_true rfl)) dX2_init_52 ⟨(Nat.le_of_ble_eq_true rfl), (Nat.le_of_ble_eq_true rfl)⟩) hS (fun q _ h => hFc q h) hFc (fun u t H1 locs ht hvm hw hB hz1 hk1 hS => ?_)
  obtain ⟨Lp10, Gp10, hR10, hP1, hK1, hD1⟩ := hB
  rw [ht] at hP1
  obtain ⟨hP, hD⟩ := va_joinQ (X := [(h0, .inr (2, [.ref q1, .ref q3, .long 1, .ref q5])), (q1, .inl ((C 0), 4, .inl (fun _ => 0))), (q3, .inl ((C 7), 2, .inr (.inr (.inr (.inr (va_up (fun _ => none) 0 (some q7))))))), (q5, .inl ((C 10), 20, .inr (.inr (.inr (.inr (fun i => if i < 20 then some (rr6 i) else none)))))), (q9, .inr (7, [.int 0, .null, .null, .null, .null, .int 0, .null, .null]))]) (cx := [(q9, .inr (7, [.int 0, .null, .null, .null, .null, .int 0, .null, .null]))]) (wr := [(h0, .inr (2, [.ref q1, .ref q3, .long 1, .ref q5])), (q1, .inl ((C 0), 4, .inl (fun _ => 0))), (q3, .inl ((C 7), 2, .inr (.inr (.inr (.inr (va_up (fun _ => none) 0 (some q7))))))), (q5, .inl ((C 10), 20, .inr (.inr (.inr (.inr (fun i => if i < 20 then some (rr6 i) else none))))))]) (w1 := cc_w C Lp10 Gp10) (pl := (cc_w C Lk2 Gk2 ++ ([] : va_W))) hP hD [4] [0, 1, 2, 3] rfl rfl (by decide) (by decide) hk1 hFc hP1 hD1
  generalize H1 = H at hP hS ⊢
  obtain ⟨Lk3, Gk3, hP, hD, xk3, uk3, ok3, pk3⟩ := cc_joinW (X := [(h0, .inr (2, [.ref q1, .ref q3, .long 1, .ref q5])), (q1, .inl ((C 0), 4, .inl (fun _ => 0))), (q3, .inl ((C 7), 2, .inr (.inr (.inr (.inr (va_up (fun _ => none) 0 (some q7))))))), (q5, .inl ((C 10), 20, .inr (.inr (.inr (.inr (fun i => if i < 20 then some (rr6 i) else none))))))]) hP hD uk2 hR10 (q3, 1)
  have hP : va_P D vwCl (([(h0, .inr (2, [.ref q1, .ref q3, .long 1, .ref q5])), (q1, .inl ((C 0), 4, .inl (fun _ => 0))), (q3, .inl ((C 7), 2, .inr (.inr (.inr (.inr (va_up (fun _ => none) 0 (some q7))))))), (q5, .inl ((C 10), 20, .inr (.inr (.inr (.inr (fun i => if i < 20 then some (rr6 i) else none))))))] : va_W) ++ (cc_w C Lk3 Gk3 ++ ([] : va_W))) H := hP
  have hD : va_D A (([(h0, .inr (2, [.ref q1, .ref q3, .long 1, .ref q5])), (q1, .inl ((C 0), 4, .inl (fun _ => 0))), (q3, .inl ((C 7), 2, .inr (.inr (.inr (.inr (va_up (fun _ => none) 0 (some q7))))))), (q5, .inl ((C 10), 20, .inr (.inr (.inr (.inr (fun i => if i < 20 then some (rr6 i) else none))))))] : va_W) ++ (cc_w C Lk3 Gk3 ++ ([] : va_W))) := hD
  refine W.widen (k := 37) (n := 562) (by omega) (by omega) ?_
  obtain ⟨k9, fs9, hk9⟩ := cc_at (C := C) (X := [(h0, .inr (2, [.ref q1, .ref q3, .long 1, .ref q5])), (q1, .inl ((C 0), 4, .inl (fun _ => 0))), (q3, .inl ((C 7), 2, .inr (.inr (.inr (.inr (va_up (fun _ => none) 0 (some q7))))))), (q5, .inl ((C 10), 20, .inr (.inr (.inr (.inr (fun i => if i < 20 then some (rr6 i) else none))))))]) (T := ([] : va_W)) (L := Lk3) (G := Gk3) ok3
  refine va_astq hx hb hK hP hD hS 2 7 k9 7 rfl rfl hk9 rfl (vp_in_nI (n := 1) (N := 2) (by decide) (by decide)) dX2_init_55 (fun H locs hP hD hS => ?_)
  have hP : va_P D vwCl (([(h0, .inr (2, [.ref q1, .ref q3, .long 1, .ref q5])), (q1, .inl ((C 0), 4, .inl (fun _ => 0))), (q3, .inl ((C 7), 2, .inr (.inr (.inr (.inr (va_up (va_up (fun _ => none) 0 (some q7)) 1 (some q9))))))), (q5, .inl ((C 10), 20, .inr (.inr (.inr (.inr (fun i => if i < 20 then some (rr6 i) else none))))))] : va_W) ++ (cc_w C Lk3 Gk3 ++ ([] : va_W))) H := hP
  have hD : va_D A (([(h0, .inr (2, [.ref q1, .ref q3, .long 1, .ref q5])), (q1, .inl ((C 0), 4, .inl (fun _ => 0))), (q3, .inl ((C 7), 2, .inr (.inr (.inr (.inr (va_up (va_up (fun _ => none) 0 (some q7)) 1 (some q9))))))), (q5, .inl ((C 10), 20, .inr (.inr (.inr (.inr (fun i => if i < 20 then some (rr6 i) else none))))))] : va_W) ++ (cc_w C Lk3 Gk3 ++ ([] : va_W))) := hD
  refine lv_iinc (v := 2) (lv' := [(1, .int 2), (0, .ref h0)]) hx hb dX2_init_56 hl (k := 0) rfl (by decide) (by decide) rfl (fun ls hl => ?_)
  refine lv_goto (tgt := 38) hx hb dX2_init_59 (by decide) ?_
  refine lv_iload_n hx hb dX2_init_38 rfl (lv_at hl 0 rfl) ?_
  refine lv_iconst (v := 2) hx hb dX2_init_39 (by decide) ?_
  refine lv_icmp_ge (tgt := 62) hx hb dX2_init_40 (by decide) (fun _ => ?_) (fun c9 => absurd (by decide) c9)
  have hP := va_P.part (X := [(h0, .inr (2, [.ref q1, .ref q3, .long 1, .ref q5])), (q1, .inl ((C 0), 4, .inl (fun _ => 0))), (q3, .inl ((C 7), 2, .inr (.inr (.inr (.inr (va_up (va_up (fun _ => none) 0 (some q7)) 1 (some q9))))))), (q5, .inl ((C 10), 20, .inr (.inr (.inr (.inr (fun i => if i < 20 then some (rr6 i) else none))))))]) (cx := [(h0, .inr (2, [.ref q1, .ref q3, .long 1, .ref q5])), (q3, .inl ((C 7), 2, .inr (.inr (.inr (.inr (va_up (va_up (fun _ => none) 0 (some q7)) 1 (some q9))))))), (q5, .inl ((C 10), 20, .inr (.inr (.inr (.inr (fun i => if i < 20 then some (rr6 i) else none)))))), (q1, .inl ((C 0), 4, .inl (fun _ => 0)))]) hP [0, 2, 3, 1] rfl
  have hD := va_D.part (X := [(h0, .inr (2, [.ref q1, .ref q3, .long 1, .ref q5])), (q1, .inl ((C 0), 4, .inl (fun _ => 0))), (q3, .inl ((C 7), 2, .inr (.inr (.inr (.inr (va_up (va_up (fun _ => none) 0 (some q7)) 1 (some q9))))))), (q5, .inl ((C 10), 20, .inr (.inr (.inr (.inr (fun i => if i < 20 then some (rr6 i) else none))))))]) (cx := [(h0, .inr (2, [.ref q1, .ref q3, .long 1, .ref q5])), (q3, .inl ((C 7), 2, .inr (.inr (.inr (.inr (va_up (va_up (fun _ => none) 0 (some q7)) 1 (some q9))))))), (q5, .inl ((C 10), 20, .inr (.inr (.inr (.inr (fun i => if i < 20 then some (rr6 i) else none)))))), (q1, .inl ((C 0), 4, .inl (fun _ => 0)))]) hD [0, 2, 3, 1] (by decide) rfl
  obtain ⟨Lk4, Gk4, hP, hD, xk4, uk4, mk4, kk4, ak4⟩ := cc_absorbArr (X := [(h0, .inr (2, [.ref q1, .ref q3, .long 1, .ref q5])), (q3, .inl ((C 7), 2, .inr (.inr (.inr (.inr (va_up (va_up (fun _ => none) 0 (some q7)) 1 (some q9))))))), (q5, .inl ((C 10), 20, .inr (.inr (.inr (.inr (fun i => if i < 20 then some (rr6 i) else none))))))]) (q := q1) (t := 0) (n := 4) (e := .inl ((C 0), 4, .inl (fun _ => 0))) (fun _ => 0) rfl hP hD uk3 (h0, 0) (fun i => ⟨fun _ => by decide, fun _ => by decide, fun _ => by decide, fun _ => Or.inl rfl⟩)
  have hP : va_P D vwCl (([(h0, .inr (2, [.ref q1, .ref q3, .long 1, .ref q5])), (q3, .inl ((C 7), 2, .inr (.inr (.inr (.inr (va_up (va_up (fun _ => none) 0 (some q7)) 1 (some q9))))))), (q5, .inl ((C 10), 20, .inr (.inr (.inr (.inr (fun i => if i < 20 then some (rr6 i) else none))))))] : va_W) ++ (cc_w C Lk4 Gk4 ++ ([] : va_W))) H := hP
  have hD : va_D A (([(h0, .inr (2, [.ref q1, .ref q3, .long 1, .ref q5])), (q3, .inl ((C 7), 2, .inr (.inr (.inr (.inr (va_up (va_up (fun _ => none) 0 (some q7)) 1 (some q9))))))), (q5, .inl ((C 10), 20, .inr (.inr (.inr (.inr (fun i => if i < 20 then some (rr6 i) else none))))))] : va_W) ++ (cc_w C Lk4 Gk4 ++ ([] : va_W))) := hD
  have hP := va_P.part (X := [(h0, .inr (2, [.ref q1, .ref q3, .long 1, .ref q5])), (q3, .inl ((C 7), 2, .inr (.inr (.inr (.inr (va_up (va_up (fun _ => none) 0 (some q7)) 1 (some q9))))))), (q5, .inl ((C 10), 20, .inr (.inr (.inr (.inr (fun i => if i < 20 then some (rr6 i) else none))))))]) (cx := [(h0, .inr (2, [.ref q1, .ref q3, .long 1, .ref q5])), (q5, .inl ((C 10), 20, .inr (.inr (.inr (.inr (fun i => if i < 20 then some (rr6 i) else none)))))), (q3, .inl ((C 7), 2, .inr (.inr (.inr (.inr (va_up (va_up (fun _ => none) 0 (some q7)) 1 (some q9)))))))]) hP [0, 2, 1] rfl
  have hD := va_D.part (X := [(h0, .inr (2, [.ref q1, .ref q3, .long 1, .ref q5])), (q3, .inl ((C 7), 2, .inr (.inr (.inr (.inr (va_up (va_up (fun _ => none) 0 (some q7)) 1 (some q9))))))), (q5, .inl ((C 10), 20, .inr (.inr (.inr (.inr (fun i => if i < 20 then some (rr6 i) else none))))))]) (cx := [(h0, .inr (2, [.ref q1, .ref q3, .long 1, .ref q5])), (q5, .inl ((C 10), 20, .inr (.inr (.inr (.inr (fun i => if i < 20 then some (rr6 i) else none)))))), (q3, .inl ((C 7), 2, .inr (.inr (.inr (.inr (va_up (va_up (fun _ => none) 0 (some q7)) 1 (some q9)))))))]) hD [0, 2, 1] (by decide) rfl
  obtain ⟨Lk5, Gk5, hP, hD, xk5, uk5, mk5, kk5⟩ := cc_absorbRow (X := [(h0, .inr (2, [.ref q1, .ref q3, .long 1, .ref q5])), (q5, .inl ((C 10), 20, .inr (.inr (.inr (.inr (fun i => if i < 20 then some (rr6 i) else none))))))]) (q := q3) (t := 7) (N := 2) (fun i => if i = 0 then q7 else q9) (fun i hi => by rcases (show i = 0 ∨ i = 1 by omega) with rfl | rfl <;> rfl) hP hD uk4 (h0, 1)
  have hP : va_P D vwCl (([(h0, .inr (2, [.ref q1, .ref q3, .long 1, .ref q5])), (q5, .inl ((C 10), 20, .inr (.inr (.inr (.inr (fun i => if i < 20 then some (rr6 i) else none))))))] : va_W) ++ (cc_w C Lk5 Gk5 ++ ([] : va_W))) H := hP
  have hD : va_D A (([(h0, .inr (2, [.ref q1, .ref q3, .long 1, .ref q5])), (q5, .inl ((C 10), 20, .inr (.inr (.inr (.inr (fun i => if i < 20 then some (rr6 i) else none))))))] : va_W) ++ (cc_w C Lk5 Gk5 ++ ([] : va_W))) := hD
  obtain ⟨Lk6, Gk6, hP, hD, xk6, uk6, mk6, kk6⟩ := cc_absorbRow (X := [(h0, .inr (2, [.ref q1, .ref q3, .long 1, .ref q5]))]) (q := q5) (t := 10) (N := 20) rr6 (fun i hi => if_pos hi) hP hD uk5 (h0, 3)
  have hP : va_P D vwCl (([(h0, .inr (2, [.ref q1, .ref q3, .long 1, .ref q5]))] : va_W) ++ (cc_w C Lk6 Gk6 ++ ([] : va_W))) H := hP
  have hD : va_D A (([(h0, .inr (2, [.ref q1, .ref q3, .long 1, .ref q5]))] : va_W) ++ (cc_w C Lk6 Gk6 ++ ([] : va_W))) := hD
  obtain ⟨Gf, hP, hD, nf, eG, xf⟩ := cc_absorb (X := []) (q := h0) (e := .inr (2, [.ref q1, .ref q3, .long 1, .ref q5])) (e' := .inr (2, [.ref q1, .ref q3, .long 1, .ref q5])) (.inl 2) (fun j => ([0, 0, 1, 0] : List Int).getD j 0) (fun j => ([q1, q3, 0, q5] : List Nat).getD j 0) (fun _ => 0) rfl (fun h => h) hP hD
  have fr : ∀ j : Nat, gr Gf h0 j = (fun j => ([q1, q3, 0, q5] : List Nat).getD j 0) j := fun j => congrFun (congrArg (fun x : cG => x.2.2.1) eG) j
  have fz : ∀ j : Nat, gz Gf h0 j = (fun j => ([0, 0, 1, 0] : List Int).getD j 0) j := fun j => congrFun (congrArg (fun x : cG => x.2.1) eG) j
  have fk : gK Gf h0 = .inl 2 := congrArg (fun x : cG => x.1) eG
  have hR : cc_R (h0 :: Lk6) Gf 2 h0 := ⟨⟨List.mem_cons_self, fk⟩, fun o => cc_U_imp (cc_U_obj uk6 nf xf o fk (fun F f1 fρ hd => ⟨cl_A xf (by decide) (fr 0) ((cx_t xk5 xk6) _ mk4).1 ((gK_e (cx_t xk5 xk6) mk4).trans kk4) (f1 _ _ (Or.inr (Or.inr (Or.inl ⟨rfl, rfl⟩)))).2 fρ, cl_Ro xf (by decide) (fr 1) (xk6 _ mk5).1 ((gK_e xk6 mk5).trans kk5) (fun i hi => by rcases (show i = 0 ∨ i = 1 by omega) with rfl | rfl <;> first | exact (cx_O (cx_t xk3 (cx_t xk4 (cx_t xk5 xk6))) ok2) | exact (cx_O (cx_t xk4 (cx_t xk5 xk6)) ok3)) (fun i hi => by rcases (show i = 0 ∨ i = 1 by omega) with rfl | rfl <;> first | exact (f1 _ _ (Or.inr (Or.inr (Or.inr (Or.inr (Or.inl ⟨rfl, rfl⟩)))))).2 | exact (f1 _ _ (Or.inr (Or.inr (Or.inr (Or.inl ⟨rfl, rfl⟩))))).2) fρ, cl_RA xf (by decide) (by decide) (fr 3) mk6 kk6 (fun i hi => ⟨((cx_t xk2 (cx_t xk3 (cx_t xk4 (cx_t xk5 xk6)))) _ (hrows i hi).1).1, (gK_e (cx_t xk2 (cx_t xk3 (cx_t xk4 (cx_t xk5 xk6)))) (hrows i hi).1).trans (hrows i hi).2⟩) (fun i hi => (f1 _ _ (Or.inr (Or.inr (Or.inr (Or.inr (Or.inr (⟨i, hi, rfl, rfl⟩))))))).2) fρ⟩)) (fun b o9 hb => Or.inl hb)⟩
  rw [List.nil_append, List.append_nil] at hP hD
  refine W.widen (k := 37) (n := 562) (by omega) (by omega) ?_
  exact W.vret hx hb hr (fun t ht hW => ⟨⟨(), rfl, trivial, _, _, hR, by rw [ht]; exact hP, va_K.moved hW.alike hK, hD⟩, hS.F ht⟩) hS.2.2 dX2_init_62
