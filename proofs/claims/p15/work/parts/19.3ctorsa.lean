set_option maxHeartbeats 4000000 in
set_option maxRecDepth 100000 in
/-- Big(2) -/
theorem n_X0_init_2 (l : Launch) (D : va_G) (C : Nat → ClassId) (h0 sz : Nat) : Met l yX0_init wsX0_init ({ frames := 1, cells := 1, slots := 2, locals := 12 }) (va_Pc [.ref h0, .int 2] (hm_P D [(h0, .inr (0, [.null, .int 0, .int 0]))] (cw_t C) sz)) (va_Qv (fun _ : Unit => True) (fun _ t => ∃ d : Nat, hm_B D (va_A [(h0, .inr (0, [.null, .int 0, .int 0]))] sz) [(h0, .inr (0, [.ref d, .int 0, .int 0])), (d, .inl (C 0, 2, .inl (fun _ => 0)))] (cw_t C) t) (va_A [(h0, .inr (0, [.null, .int 0, .int 0]))] sz)) 1 2 (va_A [(h0, .inr (0, [.null, .int 0, .int 0]))] sz) := by
  refine Met.ofW (cc := cX0_init) (maxL := 2) (ret := none) (by decide) rfl ?_
  intro p e s m args below meth c s₁ B hml hv
  obtain ⟨rfl, hsz, hP, hK, hD0, hE⟩ := hv
  have hx := B.exec
  have hb := B.bytes
  have hr := B.returns
  have hts := atoms_spec (ws := wsX0_init) B.pre
  have hown : s.vm.findClass RX0 = some m.cls := findClass_of_methodNamed B.named
  have hlocks := B.notSynchronized
  have hin : meth.name = "<init>" := (name_of_methodNamed B.named B.method).1
  subst hsz
  have hD := hD0.self (sz := s.heap.size)
  generalize hAe : va_A [(h0, .inr (0, [.null, .int 0, .int 0]))] s.heap.size = A at hD ⊢
  have hA : ∀ q : Nat, s.heap.size ≤ q → A q := fun q h => by rw [← hAe]; exact Or.inr h
  have hS : va_S A s.heap s.heap [] := va_S.rf
  have hP : va_P D vwCl [(h0, .inr (0, [.null, .int 0, .int 0]))] s.heap := hP
  have hl := lv_entry ([.ref h0, .int 2]) (n := 2) (Nat.le_of_ble_eq_true rfl)
  rw [lg_entry_eq]
  generalize (lg_sl ([.ref h0, .int 2]) ++ List.replicate (2 - (lg_sl ([.ref h0, .int 2])).length) Slot.unset).toArray = ls at hl ⊢
  have hl : lv_has ls 2 [(0, .ref h0), (1, .int 2)] := hl
  obtain ⟨G0, -⟩ : ∃ G : Nat → cG, True := ⟨fun _ => (.inl 0, fun _ => 0, fun _ => 0, fun _ => 0), trivial⟩
  have hU0 := cc_U_nil G0
  have hP : va_P D vwCl (([(h0, .inr (0, [.null, .int 0, .int 0]))] : va_W) ++ (cc_w C [] G0 ++ ([] : va_W))) s.heap := hP
  have hD : va_D A (([(h0, .inr (0, [.null, .int 0, .int 0]))] : va_W) ++ (cc_w C [] G0 ++ ([] : va_W))) := hD
  refine lv_aload_n hx hb dX0_init_0 rfl (lv_at hl 0 rfl) ?_
  refine W.objInit hx hb hown (hts (.methodLink RX0 1 objectInit) (List.mem_cons_of_mem _ (List.mem_append_left _ (List.mem_of_getElem? (i := 0) rfl)))) (hts (.instanceMethod objectInit) (List.mem_cons_of_mem _ (List.mem_append_left _ (List.mem_of_getElem? (i := 1) rfl)))) (hts _ (List.mem_of_getElem? (i := 3) rfl)) rfl (by rw [hml]; exact hl.1) rfl dX0_init_1 (Nat.le_of_ble_eq_true rfl) (Nat.le_of_ble_eq_true rfl) ?_
  refine W.eq (g2 := F0 m 4 ls []) rfl ?_
  refine lv_aload_n hx hb dX0_init_4 rfl (lv_at hl 0 rfl) ?_
  refine lv_iconst (v := 0) hx hb dX0_init_5 (by decide) ?_
  refine va_put (D := D) (ci := 0) (v := .int 0) (ty := .int) (C := RX0) (T := TX0) (N := 3) hx hb hts (fun w h => List.mem_cons_of_mem _ (List.mem_append_right _ (h))) tyX0 tyX0_ok nmX0 hown hK hP hD hS 0 rfl rfl 1 (by decide) (hts (.fieldLink RX0 7 "HiddenMoves$Big" "length" "I") (List.mem_cons_of_mem _ (List.mem_append_left _ (List.mem_of_getElem? (i := 3) rfl)))) (fun _ h9 => h9) rfl (by decide +kernel) rfl rfl (Nat.le_of_ble_eq_true rfl) dX0_init_6 (fun H locs hP hD hS => ?_)
  have hP : va_P D vwCl (([(h0, .inr (0, [.null, .int 0, .int 0]))] : va_W) ++ (cc_w C [] G0 ++ ([] : va_W))) H := hP
  have hD : va_D A (([(h0, .inr (0, [.null, .int 0, .int 0]))] : va_W) ++ (cc_w C [] G0 ++ ([] : va_W))) := hD
  refine lv_aload_n hx hb dX0_init_9 rfl (lv_at hl 0 rfl) ?_
  refine lv_iconst (v := 0) hx hb dX0_init_10 (by decide) ?_
  refine va_put (D := D) (ci := 0) (v := .int 0) (ty := .boolean) (C := RX0) (T := TX0) (N := 3) hx hb hts (fun w h => List.mem_cons_of_mem _ (List.mem_append_right _ (h))) tyX0 tyX0_ok nmX0 hown hK hP hD hS 0 rfl rfl 2 (by decide) (hts (.fieldLink RX0 13 "HiddenMoves$Big" "below" "Z") (List.mem_cons_of_mem _ (List.mem_append_left _ (List.mem_of_getElem? (i := 4) rfl)))) (fun _ h9 => h9) rfl (by decide +kernel) rfl rfl (Nat.le_of_ble_eq_true rfl) dX0_init_11 (fun H locs hP hD hS => ?_)
  have hP : va_P D vwCl (([(h0, .inr (0, [.null, .int 0, .int 0]))] : va_W) ++ (cc_w C [] G0 ++ ([] : va_W))) H := hP
  have hD : va_D A (([(h0, .inr (0, [.null, .int 0, .int 0]))] : va_W) ++ (cc_w C [] G0 ++ ([] : va_W))) := hD
  refine lv_aload_n hx hb dX0_init_14 rfl (lv_at hl 0 rfl) ?_
  refine lv_iload_n hx hb dX0_init_15 rfl (lv_at hl 1 rfl) ?_
  refine va_newa (atype := .int) (ty := .int) (N' := 2) (a0 := (2, .inl (fun _ => 0))) hx hb (hts (.arrayClass .int) (List.mem_cons_of_mem _ (List.mem_append_left _ (List.mem_of_getElem? (i := 5) rfl)))) rfl hK hP hD hS hA (fun cA => vp_cell_i cA 2 (fun _ => 0)) (by decide) (by decide) (by decide) (Nat.le_of_ble_eq_true rfl) (Nat.le_of_ble_eq_true rfl) dX0_init_16 (fun q1 cA2 H hK9 hP hD hS => ?_)
  have e9 := cc_cA hK9 0 rfl
  subst e9
  have hP := va_P.swap hP
  have hD := va_D.swap hD
  have hP : va_P D vwCl (([(h0, .inr (0, [.null, .int 0, .int 0])), (q1, .inl ((C 0), 2, .inl (fun _ => 0)))] : va_W) ++ (cc_w C [] G0 ++ ([] : va_W))) H := hP
  have hD : va_D A (([(h0, .inr (0, [.null, .int 0, .int 0])), (q1, .inl ((C 0), 2, .inl (fun _ => 0)))] : va_W) ++ (cc_w C [] G0 ++ ([] : va_W))) := hD
  refine W.widen (k := 1) (n := 2) (by omega) (by omega) ?_
  refine va_putF (D := D) (ci := 0) (v := .ref q1) (ty := .array .int) (C := RX0) (T := TX0) (N := 3) hx hb hts (fun w h => List.mem_cons_of_mem _ (List.mem_append_right _ (h))) tyX0 tyX0_ok nmX0 hown hK hP hD hS 0 rfl rfl 0 (by decide) (hts (.fieldLink RX0 17 "HiddenMoves$Big" "digits" "[I") (List.mem_cons_of_mem _ (List.mem_append_left _ (List.mem_of_getElem? (i := 6) rfl)))) (fun _ h9 => h9) rfl hin rfl (by decide +kernel) rfl rfl (Nat.le_of_ble_eq_true rfl) dX0_init_18 (fun H locs hP hD hS => ?_)
  have hP : va_P D vwCl (([(h0, .inr (0, [.ref q1, .int 0, .int 0])), (q1, .inl ((C 0), 2, .inl (fun _ => 0)))] : va_W) ++ (cc_w C [] G0 ++ ([] : va_W))) H := hP
  have hD : va_D A (([(h0, .inr (0, [.ref q1, .int 0, .int 0])), (q1, .inl ((C 0), 2, .inl (fun _ => 0)))] : va_W) ++ (cc_w C [] G0 ++ ([] : va_W))) := hD
  rw [show (cc_w C [] G0 ++ ([] : va_W)) = [] from rfl, List.append_nil] at hP hD
  refine W.widen (k := 1) (n := 2) (by omega) (by omega) ?_
  exact W.vret hx hb hr (fun t ht hW => ⟨⟨(), rfl, trivial, _, by rw [ht]; exact hP, va_K.moved hW.alike hK, hD⟩, hS.F ht⟩) hS.2.2 dX0_init_21

set_option maxHeartbeats 4000000 in
set_option maxRecDepth 100000 in
/-- Big(32) -/
theorem n_X0_init_32 (l : Launch) (D : va_G) (C : Nat → ClassId) (h0 sz : Nat) : Met l yX0_init wsX0_init ({ frames := 1, cells := 1, slots := 32, locals := 12 }) (va_Pc [.ref h0, .int 32] (hm_P D [(h0, .inr (0, [.null, .int 0, .int 0]))] (cw_t C) sz)) (va_Qv (fun _ : Unit => True) (fun _ t => ∃ d : Nat, hm_B D (va_A [(h0, .inr (0, [.null, .int 0, .int 0]))] sz) [(h0, .inr (0, [.ref d, .int 0, .int 0])), (d, .inl (C 0, 32, .inl (fun _ => 0)))] (cw_t C) t) (va_A [(h0, .inr (0, [.null, .int 0, .int 0]))] sz)) 1 32 (va_A [(h0, .inr (0, [.null, .int 0, .int 0]))] sz) := by
  refine Met.ofW (cc := cX0_init) (maxL := 2) (ret := none) (by decide) rfl ?_
  intro p e s m args below meth c s₁ B hml hv
  obtain ⟨rfl, hsz, hP, hK, hD0, hE⟩ := hv
  have hx := B.exec
  have hb := B.bytes
  have hr := B.returns
  have hts := atoms_spec (ws := wsX0_init) B.pre
  have hown : s.vm.findClass RX0 = some m.cls := findClass_of_methodNamed B.named
  have hlocks := B.notSynchronized
  have hin : meth.name = "<init>" := (name_of_methodNamed B.named B.method).1
  subst hsz
  have hD := hD0.self (sz := s.heap.size)
  generalize hAe : va_A [(h0, .inr (0, [.null, .int 0, .int 0]))] s.heap.size = A at hD ⊢
  have hA : ∀ q : Nat, s.heap.size ≤ q → A q := fun q h => by rw [← hAe]; exact Or.inr h
  have hS : va_S A s.heap s.heap [] := va_S.rf
  have hP : va_P D vwCl [(h0, .inr (0, [.null, .int 0, .int 0]))] s.heap := hP
  have hl := lv_entry ([.ref h0, .int 32]) (n := 2) (Nat.le_of_ble_eq_true rfl)
  rw [lg_entry_eq]
  generalize (lg_sl ([.ref h0, .int 32]) ++ List.replicate (2 - (lg_sl ([.ref h0, .int 32])).length) Slot.unset).toArray = ls at hl ⊢
  have hl : lv_has ls 2 [(0, .ref h0), (1, .int 32)] := hl
  obtain ⟨G0, -⟩ : ∃ G : Nat → cG, True := ⟨fun _ => (.inl 0, fun _ => 0, fun _ => 0, fun _ => 0), trivial⟩
  have hU0 := cc_U_nil G0
  have hP : va_P D vwCl (([(h0, .inr (0, [.null, .int 0, .int 0]))] : va_W) ++ (cc_w C [] G0 ++ ([] : va_W))) s.heap := hP
  have hD : va_D A (([(h0, .inr (0, [.null, .int 0, .int 0]))] : va_W) ++ (cc_w C [] G0 ++ ([] : va_W))) := hD
  refine lv_aload_n hx hb dX0_init_0 rfl (lv_at hl 0 rfl) ?_
  refine W.objInit hx hb hown (hts (.methodLink RX0 1 objectInit) (List.mem_cons_of_mem _ (List.mem_append_left _ (List.mem_of_getElem? (i := 0) rfl)))) (hts (.instanceMethod objectInit) (List.mem_cons_of_mem _ (List.mem_append_left _ (List.mem_of_getElem? (i := 1) rfl)))) (hts _ (List.mem_of_getElem? (i := 3) rfl)) rfl (by rw [hml]; exact hl.1) rfl dX0_init_1 (Nat.le_of_ble_eq_true rfl) (Nat.le_of_ble_eq_true rfl) ?_
  refine W.eq (g2 := F0 m 4 ls []) rfl ?_
  refine lv_aload_n hx hb dX0_init_4 rfl (lv_at hl 0 rfl) ?_
  refine lv_iconst (v := 0) hx hb dX0_init_5 (by decide) ?_
  refine va_put (D := D) (ci := 0) (v := .int 0) (ty := .int) (C := RX0) (T := TX0) (N := 3) hx hb hts (fun w h => List.mem_cons_of_mem _ (List.mem_append_right _ (h))) tyX0 tyX0_ok nmX0 hown hK hP hD hS 0 rfl rfl 1 (by decide) (hts (.fieldLink RX0 7 "HiddenMoves$Big" "length" "I") (List.mem_cons_of_mem _ (List.mem_append_left _ (List.mem_of_getElem? (i := 3) rfl)))) (fun _ h9 => h9) rfl (by decide +kernel) rfl rfl (Nat.le_of_ble_eq_true rfl) dX0_init_6 (fun H locs hP hD hS => ?_)
  have hP : va_P D vwCl (([(h0, .inr (0, [.null, .int 0, .int 0]))] : va_W) ++ (cc_w C [] G0 ++ ([] : va_W))) H := hP
  have hD : va_D A (([(h0, .inr (0, [.null, .int 0, .int 0]))] : va_W) ++ (cc_w C [] G0 ++ ([] : va_W))) := hD
  refine lv_aload_n hx hb dX0_init_9 rfl (lv_at hl 0 rfl) ?_
  refine lv_iconst (v := 0) hx hb dX0_init_10 (by decide) ?_
  refine va_put (D := D) (ci := 0) (v := .int 0) (ty := .boolean) (C := RX0) (T := TX0) (N := 3) hx hb hts (fun w h => List.mem_cons_of_mem _ (List.mem_append_right _ (h))) tyX0 tyX0_ok nmX0 hown hK hP hD hS 0 rfl rfl 2 (by decide) (hts (.fieldLink RX0 13 "HiddenMoves$Big" "below" "Z") (List.mem_cons_of_mem _ (List.mem_append_left _ (List.mem_of_getElem? (i := 4) rfl)))) (fun _ h9 => h9) rfl (by decide +kernel) rfl rfl (Nat.le_of_ble_eq_true rfl) dX0_init_11 (fun H locs hP hD hS => ?_)
  have hP : va_P D vwCl (([(h0, .inr (0, [.null, .int 0, .int 0]))] : va_W) ++ (cc_w C [] G0 ++ ([] : va_W))) H := hP
  have hD : va_D A (([(h0, .inr (0, [.null, .int 0, .int 0]))] : va_W) ++ (cc_w C [] G0 ++ ([] : va_W))) := hD
  refine lv_aload_n hx hb dX0_init_14 rfl (lv_at hl 0 rfl) ?_
  refine lv_iload_n hx hb dX0_init_15 rfl (lv_at hl 1 rfl) ?_
  refine va_newa (atype := .int) (ty := .int) (N' := 32) (a0 := (32, .inl (fun _ => 0))) hx hb (hts (.arrayClass .int) (List.mem_cons_of_mem _ (List.mem_append_left _ (List.mem_of_getElem? (i := 5) rfl)))) rfl hK hP hD hS hA (fun cA => vp_cell_i cA 32 (fun _ => 0)) (by decide) (by decide) (by decide) (Nat.le_of_ble_eq_true rfl) (Nat.le_of_ble_eq_true rfl) dX0_init_16 (fun q1 cA2 H hK9 hP hD hS => ?_)
  have e9 := cc_cA hK9 0 rfl
  subst e9
  have hP := va_P.swap hP
  have hD := va_D.swap hD
  have hP : va_P D vwCl (([(h0, .inr (0, [.null, .int 0, .int 0])), (q1, .inl ((C 0), 32, .inl (fun _ => 0)))] : va_W) ++ (cc_w C [] G0 ++ ([] : va_W))) H := hP
  have hD : va_D A (([(h0, .inr (0, [.null, .int 0, .int 0])), (q1, .inl ((C 0), 32, .inl (fun _ => 0)))] : va_W) ++ (cc_w C [] G0 ++ ([] : va_W))) := hD
  refine W.widen (k := 1) (n := 32) (by omega) (by omega) ?_
  refine va_putF (D := D) (ci := 0) (v := .ref q1) (ty := .array .int) (C := RX0) (T := TX0) (N := 3) hx hb hts (fun w h => List.mem_cons_of_mem _ (List.mem_append_right _ (h))) tyX0 tyX0_ok nmX0 hown hK hP hD hS 0 rfl rfl 0 (by decide) (hts (.fieldLink RX0 17 "HiddenMoves$Big" "digits" "[I") (List.mem_cons_of_mem _ (List.mem_append_left _ (List.mem_of_getElem? (i := 6) rfl)))) (fun _ h9 => h9) rfl hin rfl (by decide +kernel) rfl rfl (Nat.le_of_ble_eq_true rfl) dX0_init_18 (fun H locs hP hD hS => ?_)
  have hP : va_P D vwCl (([(h0, .inr (0, [.ref q1, .int 0, .int 0])), (q1, .inl ((C 0), 32, .inl (fun _ => 0)))] : va_W) ++ (cc_w C [] G0 ++ ([] : va_W))) H := hP
  have hD : va_D A (([(h0, .inr (0, [.ref q1, .int 0, .int 0])), (q1, .inl ((C 0), 32, .inl (fun _ => 0)))] : va_W) ++ (cc_w C [] G0 ++ ([] : va_W))) := hD
  rw [show (cc_w C [] G0 ++ ([] : va_W)) = [] from rfl, List.append_nil] at hP hD
  refine W.widen (k := 1) (n := 32) (by omega) (by omega) ?_
  exact W.vret hx hb hr (fun t ht hW => ⟨⟨(), rfl, trivial, _, by rw [ht]; exact hP, va_K.moved hW.alike hK, hD⟩, hS.F ht⟩) hS.2.2 dX0_init_21

set_option maxHeartbeats 4000000 in
set_option maxRecDepth 100000 in
/-- Big(64) -/
theorem n_X0_init_64 (l : Launch) (D : va_G) (C : Nat → ClassId) (h0 sz : Nat) : Met l yX0_init wsX0_init ({ frames := 1, cells := 1, slots := 64, locals := 12 }) (va_Pc [.ref h0, .int 64] (hm_P D [(h0, .inr (0, [.null, .int 0, .int 0]))] (cw_t C) sz)) (va_Qv (fun _ : Unit => True) (fun _ t => ∃ d : Nat, hm_B D (va_A [(h0, .inr (0, [.null, .int 0, .int 0]))] sz) [(h0, .inr (0, [.ref d, .int 0, .int 0])), (d, .inl (C 0, 64, .inl (fun _ => 0)))] (cw_t C) t) (va_A [(h0, .inr (0, [.null, .int 0, .int 0]))] sz)) 1 64 (va_A [(h0, .inr (0, [.null, .int 0, .int 0]))] sz) := by
  refine Met.ofW (cc := cX0_init) (maxL := 2) (ret := none) (by decide) rfl ?_
  intro p e s m args below meth c s₁ B hml hv
  obtain ⟨rfl, hsz, hP, hK, hD0, hE⟩ := hv
  have hx := B.exec
  have hb := B.bytes
  have hr := B.returns
  have hts := atoms_spec (ws := wsX0_init) B.pre
  have hown : s.vm.findClass RX0 = some m.cls := findClass_of_methodNamed B.named
  have hlocks := B.notSynchronized
  have hin : meth.name = "<init>" := (name_of_methodNamed B.named B.method).1
  subst hsz
  have hD := hD0.self (sz := s.heap.size)
  generalize hAe : va_A [(h0, .inr (0, [.null, .int 0, .int 0]))] s.heap.size = A at hD ⊢
  have hA : ∀ q : Nat, s.heap.size ≤ q → A q := fun q h => by rw [← hAe]; exact Or.inr h
  have hS : va_S A s.heap s.heap [] := va_S.rf
  have hP : va_P D vwCl [(h0, .inr (0, [.null, .int 0, .int 0]))] s.heap := hP
  have hl := lv_entry ([.ref h0, .int 64]) (n := 2) (Nat.le_of_ble_eq_true rfl)
  rw [lg_entry_eq]
  generalize (lg_sl ([.ref h0, .int 64]) ++ List.replicate (2 - (lg_sl ([.ref h0, .int 64])).length) Slot.unset).toArray = ls at hl ⊢
  have hl : lv_has ls 2 [(0, .ref h0), (1, .int 64)] := hl
  obtain ⟨G0, -⟩ : ∃ G : Nat → cG, True := ⟨fun _ => (.inl 0, fun _ => 0, fun _ => 0, fun _ => 0), trivial⟩
  have hU0 := cc_U_nil G0
  have hP : va_P D vwCl (([(h0, .inr (0, [.null, .int 0, .int 0]))] : va_W) ++ (cc_w C [] G0 ++ ([] : va_W))) s.heap := hP
  have hD : va_D A (([(h0, .inr (0, [.null, .int 0, .int 0]))] : va_W) ++ (cc_w C [] G0 ++ ([] : va_W))) := hD
  refine lv_aload_n hx hb dX0_init_0 rfl (lv_at hl 0 rfl) ?_
  refine W.objInit hx hb hown (hts (.methodLink RX0 1 objectInit) (List.mem_cons_of_mem _ (List.mem_append_left _ (List.mem_of_getElem? (i := 0) rfl)))) (hts (.instanceMethod objectInit) (List.mem_cons_of_mem _ (List.mem_append_left _ (List.mem_of_getElem? (i := 1) rfl)))) (hts _ (List.mem_of_getElem? (i := 3) rfl)) rfl (by rw [hml]; exact hl.1) rfl dX0_init_1 (Nat.le_of_ble_eq_true rfl) (Nat.le_of_ble_eq_true rfl) ?_
  refine W.eq (g2 := F0 m 4 ls []) rfl ?_
  refine lv_aload_n hx hb dX0_init_4 rfl (lv_at hl 0 rfl) ?_
  refine lv_iconst (v := 0) hx hb dX0_init_5 (by decide) ?_
  refine va_put (D := D) (ci := 0) (v := .int 0) (ty := .int) (C := RX0) (T := TX0) (N := 3) hx hb hts (fun w h => List.mem_cons_of_mem _ (List.mem_append_right _ (h))) tyX0 tyX0_ok nmX0 hown hK hP hD hS 0 rfl rfl 1 (by decide) (hts (.fieldLink RX0 7 "HiddenMoves$Big" "length" "I") (List.mem_cons_of_mem _ (List.mem_append_left _ (List.mem_of_getElem? (i := 3) rfl)))) (fun _ h9 => h9) rfl (by decide +kernel) rfl rfl (Nat.le_of_ble_eq_true rfl) dX0_init_6 (fun H locs hP hD hS => ?_)
  have hP : va_P D vwCl (([(h0, .inr (0, [.null, .int 0, .int 0]))] : va_W) ++ (cc_w C [] G0 ++ ([] : va_W))) H := hP
  have hD : va_D A (([(h0, .inr (0, [.null, .int 0, .int 0]))] : va_W) ++ (cc_w C [] G0 ++ ([] : va_W))) := hD
  refine lv_aload_n hx hb dX0_init_9 rfl (lv_at hl 0 rfl) ?_
  refine lv_iconst (v := 0) hx hb dX0_init_10 (by decide) ?_
  refine va_put (D := D) (ci := 0) (v := .int 0) (ty := .boolean) (C := RX0) (T := TX0) (N := 3) hx hb hts (fun w h => List.mem_cons_of_mem _ (List.mem_append_right _ (h))) tyX0 tyX0_ok nmX0 hown hK hP hD hS 0 rfl rfl 2 (by decide) (hts (.fieldLink RX0 13 "HiddenMoves$Big" "below" "Z") (List.mem_cons_of_mem _ (List.mem_append_left _ (List.mem_of_getElem? (i := 4) rfl)))) (fun _ h9 => h9) rfl (by decide +kernel) rfl rfl (Nat.le_of_ble_eq_true rfl) dX0_init_11 (fun H locs hP hD hS => ?_)
  have hP : va_P D vwCl (([(h0, .inr (0, [.null, .int 0, .int 0]))] : va_W) ++ (cc_w C [] G0 ++ ([] : va_W))) H := hP
  have hD : va_D A (([(h0, .inr (0, [.null, .int 0, .int 0]))] : va_W) ++ (cc_w C [] G0 ++ ([] : va_W))) := hD
  refine lv_aload_n hx hb dX0_init_14 rfl (lv_at hl 0 rfl) ?_
  refine lv_iload_n hx hb dX0_init_15 rfl (lv_at hl 1 rfl) ?_
  refine va_newa (atype := .int) (ty := .int) (N' := 64) (a0 := (64, .inl (fun _ => 0))) hx hb (hts (.arrayClass .int) (List.mem_cons_of_mem _ (List.mem_append_left _ (List.mem_of_getElem? (i := 5) rfl)))) rfl hK hP hD hS hA (fun cA => vp_cell_i cA 64 (fun _ => 0)) (by decide) (by decide) (by decide) (Nat.le_of_ble_eq_true rfl) (Nat.le_of_ble_eq_true rfl) dX0_init_16 (fun q1 cA2 H hK9 hP hD hS => ?_)
  have e9 := cc_cA hK9 0 rfl
  subst e9
  have hP := va_P.swap hP
  have hD := va_D.swap hD
  have hP : va_P D vwCl (([(h0, .inr (0, [.null, .int 0, .int 0])), (q1, .inl ((C 0), 64, .inl (fun _ => 0)))] : va_W) ++ (cc_w C [] G0 ++ ([] : va_W))) H := hP
  have hD : va_D A (([(h0, .inr (0, [.null, .int 0, .int 0])), (q1, .inl ((C 0), 64, .inl (fun _ => 0)))] : va_W) ++ (cc_w C [] G0 ++ ([] : va_W))) := hD
  refine W.widen (k := 1) (n := 64) (by omega) (by omega) ?_
  refine va_putF (D := D) (ci := 0) (v := .ref q1) (ty := .array .int) (C := RX0) (T := TX0) (N := 3) hx hb hts (fun w h => List.mem_cons_of_mem _ (List.mem_append_right _ (h))) tyX0 tyX0_ok nmX0 hown hK hP hD hS 0 rfl rfl 0 (by decide) (hts (.fieldLink RX0 17 "HiddenMoves$Big" "digits" "[I") (List.mem_cons_of_mem _ (List.mem_append_left _ (List.mem_of_getElem? (i := 6) rfl)))) (fun _ h9 => h9) rfl hin rfl (by decide +kernel) rfl rfl (Nat.le_of_ble_eq_true rfl) dX0_init_18 (fun H locs hP hD hS => ?_)
  have hP : va_P D vwCl (([(h0, .inr (0, [.ref q1, .int 0, .int 0])), (q1, .inl ((C 0), 64, .inl (fun _ => 0)))] : va_W) ++ (cc_w C [] G0 ++ ([] : va_W))) H := hP
  have hD : va_D A (([(h0, .inr (0, [.ref q1, .int 0, .int 0])), (q1, .inl ((C 0), 64, .inl (fun _ => 0)))] : va_W) ++ (cc_w C [] G0 ++ ([] : va_W))) := hD
  rw [show (cc_w C [] G0 ++ ([] : va_W)) = [] from rfl, List.append_nil] at hP hD
  refine W.widen (k := 1) (n := 64) (by omega) (by omega) ?_
  exact W.vret hx hb hr (fun t ht hW => ⟨⟨(), rfl, trivial, _, by rw [ht]; exact hP, va_K.moved hW.alike hK, hD⟩, hS.F ht⟩) hS.2.2 dX0_init_21

set_option maxHeartbeats 4000000 in
set_option maxRecDepth 100000 in
/-- Divider() -/
theorem n_X1_init (l : Launch) (D : va_G) (C : Nat → ClassId) (h0 sz : Nat) : Met l yX1_init wsX1_init ({ frames := 2, cells := 2, slots := 35, locals := 33 }) (va_Pc [.ref h0] (hm_P D [(h0, .inr (1, [.null, .int 0, .int 0]))] (cw_t C) sz)) (va_Qv (fun _ : Unit => True) (fun _ t => ∃ (L : List Nat) (G : Nat → cG), cc_R L G 1 h0 ∧ hm_B D (va_A [(h0, .inr (1, [.null, .int 0, .int 0]))] sz) (cc_w C L G) (cw_t C) t) (va_A [(h0, .inr (1, [.null, .int 0, .int 0]))] sz)) 2 35 (va_A [(h0, .inr (1, [.null, .int 0, .int 0]))] sz) := by
  refine Met.ofW (cc := cX1_init) (maxL := 1) (ret := none) (by decide) rfl ?_
  intro p e s m args below meth c s₁ B hml hv
  obtain ⟨rfl, hsz, hP, hK, hD0, hE⟩ := hv
  have hx := B.exec
  have hb := B.bytes
  have hr := B.returns
  have hts := atoms_spec (ws := wsX1_init) B.pre
  have hown : s.vm.findClass RX1 = some m.cls := findClass_of_methodNamed B.named
  have hlocks := B.notSynchronized
  have hin : meth.name = "<init>" := (name_of_methodNamed B.named B.method).1
  subst hsz
  have hD := hD0.self (sz := s.heap.size)
  generalize hAe : va_A [(h0, .inr (1, [.null, .int 0, .int 0]))] s.heap.size = A at hD ⊢
  have hA : ∀ q : Nat, s.heap.size ≤ q → A q := fun q h => by rw [← hAe]; exact Or.inr h
  have hS : va_S A s.heap s.heap [] := va_S.rf
  have hP : va_P D vwCl [(h0, .inr (1, [.null, .int 0, .int 0]))] s.heap := hP
  have hl := lv_entry ([.ref h0]) (n := 1) (Nat.le_of_ble_eq_true rfl)
  rw [lg_entry_eq]
  generalize (lg_sl ([.ref h0]) ++ List.replicate (1 - (lg_sl ([.ref h0])).length) Slot.unset).toArray = ls at hl ⊢
  have hl : lv_has ls 1 [(0, .ref h0)] := hl
  obtain ⟨G0, -⟩ : ∃ G : Nat → cG, True := ⟨fun _ => (.inl 0, fun _ => 0, fun _ => 0, fun _ => 0), trivial⟩
  have hU0 := cc_U_nil G0
  have hP : va_P D vwCl (([(h0, .inr (1, [.null, .int 0, .int 0]))] : va_W) ++ (cc_w C [] G0 ++ ([] : va_W))) s.heap := hP
  have hD : va_D A (([(h0, .inr (1, [.null, .int 0, .int 0]))] : va_W) ++ (cc_w C [] G0 ++ ([] : va_W))) := hD
  refine lv_aload_n hx hb dX1_init_0 rfl (lv_at hl 0 rfl) ?_
  refine W.objInit hx hb hown (hts (.methodLink RX1 3 objectInit) (List.mem_cons_of_mem _ (List.mem_append_left _ (List.mem_append_left _ (List.mem_of_getElem? (i := 0) rfl))))) (hts (.instanceMethod objectInit) (List.mem_cons_of_mem _ (List.mem_append_left _ (List.mem_append_left _ (List.mem_of_getElem? (i := 1) rfl))))) (hts _ (List.mem_of_getElem? (i := 3) rfl)) rfl (by rw [hml]; exact hl.1) rfl dX1_init_1 (Nat.le_of_ble_eq_true rfl) (Nat.le_of_ble_eq_true rfl) ?_
  refine W.eq (g2 := F0 m 4 ls []) rfl ?_
  refine lv_aload_n hx hb dX1_init_4 rfl (lv_at hl 0 rfl) ?_
  refine va_new (ci := 0) (fs := [.null, .int 0, .int 0]) (C := RX0) (T := TX0) (N := 3) hx hb hts (fun w h => List.mem_cons_of_mem _ (List.mem_append_left _ (List.mem_append_right _ (h)))) tyX0 tyX0_ok hown (hts (.classLink RX1 9 RX0) (List.mem_cons_of_mem _ (List.mem_append_left _ (List.mem_append_left _ (List.mem_of_getElem? (i := 3) rfl))))) (hts (.instantiable RX0 3) (List.mem_cons_of_mem _ (List.mem_append_left _ (List.mem_append_left _ (List.mem_of_getElem? (i := 4) rfl))))) (hts (.initialized RX0) (List.mem_cons_of_mem _ (List.mem_append_left _ (List.mem_append_left _ (List.mem_of_getElem? (i := 5) rfl))))) hK hP hD hS hA rfl (fun j hj => by rcases (show j = 0 ∨ j = 1 ∨ j = 2 by omega) with rfl | rfl | rfl <;> rfl) (Nat.le_of_ble_eq_true rfl) (Nat.le_of_ble_eq_true rfl) dX1_init_5 (fun q1 H hP hD hS => ?_)
  have hP := va_P.swap hP
  have hD := va_D.swap hD
  have hP : va_P D vwCl (([(h0, .inr (1, [.null, .int 0, .int 0])), (q1, .inr (0, [.null, .int 0, .int 0]))] : va_W) ++ (cc_w C [] G0 ++ ([] : va_W))) H := hP
  have hD : va_D A (([(h0, .inr (1, [.null, .int 0, .int 0])), (q1, .inr (0, [.null, .int 0, .int 0]))] : va_W) ++ (cc_w C [] G0 ++ ([] : va_W))) := hD
  refine W.widen (k := 1) (n := 3) (by omega) (by omega) ?_
  refine lv_dup hx hb dX1_init_8 rfl ?_
  refine lv_bipush (v := (32)) hx hb dX1_init_9 (by decide) ?_
  have hPc := hP.sub (ws' := [(q1, .inr (0, [.null, .int 0, .int 0]))]) [1] rfl
  have hDc := hD.sub (ws' := [(q1, .inr (0, [.null, .int 0, .int 0]))]) [1] (by decide) rfl
  have hFc := va_free (wc := [(q1, .inr (0, [.null, .int 0, .int 0]))]) hD hS hA [1] rfl
  refine va_callv (va_runI (As := [.int 32]) (rest := [.ref q1, .ref h0]) ⟨hx, hb, hml, hown, hts⟩ (n_X0_init_32 l D C q1 _) (cwI 1 hts gX1_init_X0_init rfl rfl rfl (hts (.initialized RX0) (List.mem_cons_of_mem _ (List.mem_append_left _ (List.mem_append_left _ (List.mem_of_getElem? (i := 5) rfl))))) (hts (.methodLink RX1 11 yX0_init) (List.mem_cons_of_mem _ (List.mem_append_left _ (List.mem_append_left _ (List.mem_of_getElem? (i := 9) rfl))))) (hts (.instanceMethod yX0_init) (List.mem_cons_of_mem _ (List.mem_append_left _ (List.mem_append_left _ (List.mem_of_getElem? (i := 10) rfl))))) rfl (by decide +kernel) ⟨Nat.le_of_ble_eq_true rfl, Nat.le_of_ble_eq_true rfl⟩) ⟨hm_blind, hm_pre hPc hK hDc hE⟩ rfl rfl hl.1 rfl (lv_room (Nat.le_of_ble_eq_true rfl)) dX1_init_11 ⟨(Nat.le_of_ble_eq_true rfl), (Nat.le_of_ble_eq_true rfl)⟩) hS (fun q _ h => hFc q h) hFc (fun u t H1 locs ht hvm hw hB hz1 hk1 hS => ?_)
  obtain ⟨q2, hP1, hK1, hD1⟩ := hB
  rw [ht] at hP1
  obtain ⟨hP, hD⟩ := va_joinQ (X := [(h0, .inr (1, [.null, .int 0, .int 0])), (q1, .inr (0, [.null, .int 0, .int 0]))]) (cx := [(q1, .inr (0, [.null, .int 0, .int 0]))]) (wr := [(h0, .inr (1, [.null, .int 0, .int 0]))]) (w1 := [(q1, .inr (0, [.ref q2, .int 0, .int 0])), (q2, .inl ((C 0), 32, .inl (fun _ => 0)))]) (pl := (cc_w C [] G0 ++ ([] : va_W))) hP hD [1] [0] rfl rfl (by decide) (by decide) hk1 hFc hP1 hD1
  generalize H1 = H at hP hS ⊢
  have hP : va_P D vwCl (([(h0, .inr (1, [.null, .int 0, .int 0])), (q1, .inr (0, [.ref q2, .int 0, .int 0])), (q2, .inl ((C 0), 32, .inl (fun _ => 0)))] : va_W) ++ (cc_w C [] G0 ++ ([] : va_W))) H := hP
  have hD : va_D A (([(h0, .inr (1, [.null, .int 0, .int 0])), (q1, .inr (0, [.ref q2, .int 0, .int 0])), (q2, .inl ((C 0), 32, .inl (fun _ => 0)))] : va_W) ++ (cc_w C [] G0 ++ ([] : va_W))) := hD
  refine W.widen (k := 2) (n := 35) (by omega) (by omega) ?_
  refine va_putF (D := D) (ci := 1) (v := .ref q1) (ty := .object "HiddenMoves$Big") (C := RX1) (T := TX1) (N := 3) hx hb hts (fun w h => List.mem_cons_of_mem _ (List.mem_append_right _ (h))) tyX1 tyX1_ok nmX1 hown hK hP hD hS 0 rfl rfl 0 (by decide) (hts (.fieldLink RX1 14 "HiddenMoves$Divider" "odd" "LHiddenMoves$Big;") (List.mem_cons_of_mem _ (List.mem_append_left _ (List.mem_append_left _ (List.mem_of_getElem? (i := 6) rfl))))) (fun _ h9 => h9) rfl hin rfl (by decide +kernel) rfl rfl (Nat.le_of_ble_eq_true rfl) dX1_init_14 (fun H locs hP hD hS => ?_)
  have hP : va_P D vwCl (([(h0, .inr (1, [.ref q1, .int 0, .int 0])), (q1, .inr (0, [.ref q2, .int 0, .int 0])), (q2, .inl ((C 0), 32, .inl (fun _ => 0)))] : va_W) ++ (cc_w C [] G0 ++ ([] : va_W))) H := hP
  have hD : va_D A (([(h0, .inr (1, [.ref q1, .int 0, .int 0])), (q1, .inr (0, [.ref q2, .int 0, .int 0])), (q2, .inl ((C 0), 32, .inl (fun _ => 0)))] : va_W) ++ (cc_w C [] G0 ++ ([] : va_W))) := hD
  obtain ⟨Lk1, Gk1, hP, hD, xk1, uk1, bk1⟩ := cc_absorbBig (X := [(h0, .inr (1, [.ref q1, .int 0, .int 0]))]) (b := q1) (d := q2) (n := 32) hP hD hU0 (by decide) (h0, 0)
  have hP : va_P D vwCl (([(h0, .inr (1, [.ref q1, .int 0, .int 0]))] : va_W) ++ (cc_w C Lk1 Gk1 ++ ([] : va_W))) H := hP
  have hD : va_D A (([(h0, .inr (1, [.ref q1, .int 0, .int 0]))] : va_W) ++ (cc_w C Lk1 Gk1 ++ ([] : va_W))) := hD
  refine lv_aload_n hx hb dX1_init_17 rfl (lv_at hl 0 rfl) ?_
  refine lv_iconst (v := 0) hx hb dX1_init_18 (by decide) ?_
  refine va_put (D := D) (ci := 1) (v := .int 0) (ty := .int) (C := RX1) (T := TX1) (N := 3) hx hb hts (fun w h => List.mem_cons_of_mem _ (List.mem_append_right _ (h))) tyX1 tyX1_ok nmX1 hown hK hP hD hS 0 rfl rfl 1 (by decide) (hts (.fieldLink RX1 20 "HiddenMoves$Divider" "twos" "I") (List.mem_cons_of_mem _ (List.mem_append_left _ (List.mem_append_left _ (List.mem_of_getElem? (i := 7) rfl))))) (fun _ h9 => h9) rfl (by decide +kernel) rfl rfl (Nat.le_of_ble_eq_true rfl) dX1_init_19 (fun H locs hP hD hS => ?_)
  have hP : va_P D vwCl (([(h0, .inr (1, [.ref q1, .int 0, .int 0]))] : va_W) ++ (cc_w C Lk1 Gk1 ++ ([] : va_W))) H := hP
  have hD : va_D A (([(h0, .inr (1, [.ref q1, .int 0, .int 0]))] : va_W) ++ (cc_w C Lk1 Gk1 ++ ([] : va_W))) := hD
  refine lv_aload_n hx hb dX1_init_22 rfl (lv_at hl 0 rfl) ?_
  refine lv_iconst (v := 1) hx hb dX1_init_23 (by decide) ?_
  refine va_put (D := D) (ci := 1) (v := .int 1) (ty := .int) (C := RX1) (T := TX1) (N := 3) hx hb hts (fun w h => List.mem_cons_of_mem _ (List.mem_append_right _ (h))) tyX1 tyX1_ok nmX1 hown hK hP hD hS 0 rfl rfl 2 (by decide) (hts (.fieldLink RX1 24 "HiddenMoves$Divider" "inverse" "I") (List.mem_cons_of_mem _ (List.mem_append_left _ (List.mem_append_left _ (List.mem_of_getElem? (i := 8) rfl))))) (fun _ h9 => h9) rfl (by decide +kernel) rfl rfl (Nat.le_of_ble_eq_true rfl) dX1_init_24 (fun H locs hP hD hS => ?_)
  have hP : va_P D vwCl (([(h0, .inr (1, [.ref q1, .int 0, .int 1]))] : va_W) ++ (cc_w C Lk1 Gk1 ++ ([] : va_W))) H := hP
  have hD : va_D A (([(h0, .inr (1, [.ref q1, .int 0, .int 1]))] : va_W) ++ (cc_w C Lk1 Gk1 ++ ([] : va_W))) := hD
  obtain ⟨Gf, hP, hD, nf, eG, xf⟩ := cc_absorb (X := []) (q := h0) (e := .inr (1, [.ref q1, .int 0, .int 1])) (e' := .inr (1, [.ref q1, .int 0, .int 1])) (.inl 1) (fun j => ([0, 0, 1] : List Int).getD j 0) (fun j => ([q1, 0, 0] : List Nat).getD j 0) (fun _ => 0) rfl (fun h => h) hP hD
  have fr : ∀ j : Nat, gr Gf h0 j = (fun j => ([q1, 0, 0] : List Nat).getD j 0) j := fun j => congrFun (congrArg (fun x : cG => x.2.2.1) eG) j
  have fz : ∀ j : Nat, gz Gf h0 j = (fun j => ([0, 0, 1] : List Int).getD j 0) j := fun j => congrFun (congrArg (fun x : cG => x.2.1) eG) j
  have fk : gK Gf h0 = .inl 1 := congrArg (fun x : cG => x.1) eG
  have hR : cc_R (h0 :: Lk1) Gf 1 h0 := ⟨⟨List.mem_cons_self, fk⟩, fun o => cc_U_imp (cc_U_obj uk1 nf xf o fk (fun F f1 fρ hd => cl_B xf (fr 0) bk1 (f1 _ _ (Or.inl ⟨rfl, rfl⟩)).2 fρ)) (fun b o9 hb => Or.inl hb)⟩
  rw [List.nil_append, List.append_nil] at hP hD
  refine W.widen (k := 2) (n := 35) (by omega) (by omega) ?_
  exact W.vret hx hb hr (fun t ht hW => ⟨⟨(), rfl, trivial, _, _, hR, by rw [ht]; exact hP, va_K.moved hW.alike hK, hD⟩, hS.F ht⟩) hS.2.2 dX1_init_27

set_option maxHeartbeats 4000000 in
set_option maxRecDepth 100000 in
/-- Side() -/
theorem n_X7_init (l : Launch) (D : va_G) (C : Nat → ClassId) (h0 sz : Nat) : Met l yX7_init wsX7_init ({ frames := 1, cells := 6, slots := 60, locals := 12 }) (va_Pc [.ref h0] (hm_P D [(h0, .inr (7, [.int 0, .null, .null, .null, .null, .int 0, .null, .null]))] (cw_t C) sz)) (va_Qv (fun _ : Unit => True) (fun _ t => ∃ (L : List Nat) (G : Nat → cG), cc_R L G 7 h0 ∧ hm_B D (va_A [(h0, .inr (7, [.int 0, .null, .null, .null, .null, .int 0, .null, .null]))] sz) (cc_w C L G) (cw_t C) t) (va_A [(h0, .inr (7, [.int 0, .null, .null, .null, .null, .int 0, .null, .null]))] sz)) 6 60 (va_A [(h0, .inr (7, [.int 0, .null, .null, .null, .null, .int 0, .null, .null]))] sz) := by
  refine Met.ofW (cc := cX7_init) (maxL := 1) (ret := none) (by decide) rfl ?_
  intro p e s m args below meth c s₁ B hml hv
  obtain ⟨rfl, hsz, hP, hK, hD0, hE⟩ := hv
  have hx := B.exec
  have hb := B.bytes
  have hr := B.returns
  have hts := atoms_spec (ws := wsX7_init) B.pre
  have hown : s.vm.findClass RX7 = some m.cls := findClass_of_methodNamed B.named
  have hlocks := B.notSynchronized
  have hin : meth.name = "<init>" := (name_of_methodNamed B.named B.method).1
  subst hsz
  have hD := hD0.self (sz := s.heap.size)
  generalize hAe : va_A [(h0, .inr (7, [.int 0, .null, .null, .null, .null, .int 0, .null, .null]))] s.heap.size = A at hD ⊢
  have hA : ∀ q : Nat, s.heap.size ≤ q → A q := fun q h => by rw [← hAe]; exact Or.inr h
  have hS : va_S A s.heap s.heap [] := va_S.rf
  have hP : va_P D vwCl [(h0, .inr (7, [.int 0, .null, .null, .null, .null, .int 0, .null, .null]))] s.heap := hP
  have hl := lv_entry ([.ref h0]) (n := 1) (Nat.le_of_ble_eq_true rfl)
  rw [lg_entry_eq]
  generalize (lg_sl ([.ref h0]) ++ List.replicate (1 - (lg_sl ([.ref h0])).length) Slot.unset).toArray = ls at hl ⊢
  have hl : lv_has ls 1 [(0, .ref h0)] := hl
  obtain ⟨G0, -⟩ : ∃ G : Nat → cG, True := ⟨fun _ => (.inl 0, fun _ => 0, fun _ => 0, fun _ => 0), trivial⟩
  have hU0 := cc_U_nil G0
  have hP : va_P D vwCl (([(h0, .inr (7, [.int 0, .null, .null, .null, .null, .int 0, .null, .null]))] : va_W) ++ (cc_w C [] G0 ++ ([] : va_W))) s.heap := hP
  have hD : va_D A (([(h0, .inr (7, [.int 0, .null, .null, .null, .null, .int 0, .null, .null]))] : va_W) ++ (cc_w C [] G0 ++ ([] : va_W))) := hD
  refine lv_aload_n hx hb dX7_init_0 rfl (lv_at hl 0 rfl) ?_
  refine W.objInit hx hb hown (hts (.methodLink RX7 3 objectInit) (List.mem_cons_of_mem _ (List.mem_append_left _ (List.mem_of_getElem? (i := 0) rfl)))) (hts (.instanceMethod objectInit) (List.mem_cons_of_mem _ (List.mem_append_left _ (List.mem_of_getElem? (i := 1) rfl)))) (hts _ (List.mem_of_getElem? (i := 3) rfl)) rfl (by rw [hml]; exact hl.1) rfl dX7_init_1 (Nat.le_of_ble_eq_true rfl) (Nat.le_of_ble_eq_true rfl) ?_
  refine W.eq (g2 := F0 m 4 ls []) rfl ?_
  refine lv_aload_n hx hb dX7_init_4 rfl (lv_at hl 0 rfl) ?_
  refine lv_iconst (v := 0) hx hb dX7_init_5 (by decide) ?_
  refine va_put (D := D) (ci := 7) (v := .int 0) (ty := .int) (C := RX7) (T := TX7) (N := 8) hx hb hts (fun w h => List.mem_cons_of_mem _ (List.mem_append_right _ (h))) tyX7 tyX7_ok nmX7 hown hK hP hD hS 0 rfl rfl 0 (by decide) (hts (.fieldLink RX7 9 "HiddenMoves$Side" "sets" "I") (List.mem_cons_of_mem _ (List.mem_append_left _ (List.mem_of_getElem? (i := 3) rfl)))) (fun _ h9 => h9) rfl (by decide +kernel) rfl rfl (Nat.le_of_ble_eq_true rfl) dX7_init_6 (fun H locs hP hD hS => ?_)
  have hP : va_P D vwCl (([(h0, .inr (7, [.int 0, .null, .null, .null, .null, .int 0, .null, .null]))] : va_W) ++ (cc_w C [] G0 ++ ([] : va_W))) H := hP
  have hD : va_D A (([(h0, .inr (7, [.int 0, .null, .null, .null, .null, .int 0, .null, .null]))] : va_W) ++ (cc_w C [] G0 ++ ([] : va_W))) := hD
  refine lv_aload_n hx hb dX7_init_9 rfl (lv_at hl 0 rfl) ?_
  refine lv_bipush (v := (10)) hx hb dX7_init_10 (by decide) ?_
  refine va_newa (atype := .int) (ty := .int) (N' := 10) (a0 := (10, .inl (fun _ => 0))) hx hb (hts (.arrayClass .int) (List.mem_cons_of_mem _ (List.mem_append_left _ (List.mem_of_getElem? (i := 4) rfl)))) rfl hK hP hD hS hA (fun cA => vp_cell_i cA 10 (fun _ => 0)) (by decide) (by decide) (by decide) (Nat.le_of_ble_eq_true rfl) (Nat.le_of_ble_eq_true rfl) dX7_init_12 (fun q1 cA2 H hK9 hP hD hS => ?_)
  have e9 := cc_cA hK9 0 rfl
  subst e9
  have hP := va_P.swap hP
  have hD := va_D.swap hD
  have hP : va_P D vwCl (([(h0, .inr (7, [.int 0, .null, .null, .null, .null, .int 0, .null, .null])), (q1, .inl ((C 0), 10, .inl (fun _ => 0)))] : va_W) ++ (cc_w C [] G0 ++ ([] : va_W))) H := hP
  have hD : va_D A (([(h0, .inr (7, [.int 0, .null, .null, .null, .null, .int 0, .null, .null])), (q1, .inl ((C 0), 10, .inl (fun _ => 0)))] : va_W) ++ (cc_w C [] G0 ++ ([] : va_W))) := hD
  refine W.widen (k := 1) (n := 10) (by omega) (by omega) ?_
  refine va_putF (D := D) (ci := 7) (v := .ref q1) (ty := .array .int) (C := RX7) (T := TX7) (N := 8) hx hb hts (fun w h => List.mem_cons_of_mem _ (List.mem_append_right _ (h))) tyX7 tyX7_ok nmX7 hown hK hP hD hS 0 rfl rfl 1 (by decide) (hts (.fieldLink RX7 15 "HiddenMoves$Side" "numbers" "[I") (List.mem_cons_of_mem _ (List.mem_append_left _ (List.mem_of_getElem? (i := 5) rfl)))) (fun _ h9 => h9) rfl hin rfl (by decide +kernel) rfl rfl (Nat.le_of_ble_eq_true rfl) dX7_init_14 (fun H locs hP hD hS => ?_)
  have hP : va_P D vwCl (([(h0, .inr (7, [.int 0, .ref q1, .null, .null, .null, .int 0, .null, .null])), (q1, .inl ((C 0), 10, .inl (fun _ => 0)))] : va_W) ++ (cc_w C [] G0 ++ ([] : va_W))) H := hP
  have hD : va_D A (([(h0, .inr (7, [.int 0, .ref q1, .null, .null, .null, .int 0, .null, .null])), (q1, .inl ((C 0), 10, .inl (fun _ => 0)))] : va_W) ++ (cc_w C [] G0 ++ ([] : va_W))) := hD
  refine lv_aload_n hx hb dX7_init_17 rfl (lv_at hl 0 rfl) ?_
  refine lv_bipush (v := (10)) hx hb dX7_init_18 (by decide) ?_
  refine va_newa (atype := .int) (ty := .int) (N' := 10) (a0 := (10, .inl (fun _ => 0))) hx hb (hts (.arrayClass .int) (List.mem_cons_of_mem _ (List.mem_append_left _ (List.mem_of_getElem? (i := 4) rfl)))) rfl hK hP hD hS hA (fun cA => vp_cell_i cA 10 (fun _ => 0)) (by decide) (by decide) (by decide) (Nat.le_of_ble_eq_true rfl) (Nat.le_of_ble_eq_true rfl) dX7_init_20 (fun q3 cA4 H hK9 hP hD hS => ?_)
  have e9 := cc_cA hK9 0 rfl
  subst e9
  have hP := va_P.swap hP
  have hD := va_D.swap hD
  have hP : va_P D vwCl (([(h0, .inr (7, [.int 0, .ref q1, .null, .null, .null, .int 0, .null, .null])), (q1, .inl ((C 0), 10, .inl (fun _ => 0))), (q3, .inl ((C 0), 10, .inl (fun _ => 0)))] : va_W) ++ (cc_w C [] G0 ++ ([] : va_W))) H := hP
  have hD : va_D A (([(h0, .inr (7, [.int 0, .ref q1, .null, .null, .null, .int 0, .null, .null])), (q1, .inl ((C 0), 10, .inl (fun _ => 0))), (q3, .inl ((C 0), 10, .inl (fun _ => 0)))] : va_W) ++ (cc_w C [] G0 ++ ([] : va_W))) := hD
  refine W.widen (k := 2) (n := 20) (by omega) (by omega) ?_
  refine va_putF (D := D) (ci := 7) (v := .ref q3) (ty := .array .int) (C := RX7) (T := TX7) (N := 8) hx hb hts (fun w h => List.mem_cons_of_mem _ (List.mem_append_right _ (h))) tyX7 tyX7_ok nmX7 hown hK hP hD hS 0 rfl rfl 2 (by decide) (hts (.fieldLink RX7 19 "HiddenMoves$Side" "moves" "[I") (List.mem_cons_of_mem _ (List.mem_append_left _ (List.mem_of_getElem? (i := 6) rfl)))) (fun _ h9 => h9) rfl hin rfl (by decide +kernel) rfl rfl (Nat.le_of_ble_eq_true rfl) dX7_init_22 (fun H locs hP hD hS => ?_)
  have hP : va_P D vwCl (([(h0, .inr (7, [.int 0, .ref q1, .ref q3, .null, .null, .int 0, .null, .null])), (q1, .inl ((C 0), 10, .inl (fun _ => 0))), (q3, .inl ((C 0), 10, .inl (fun _ => 0)))] : va_W) ++ (cc_w C [] G0 ++ ([] : va_W))) H := hP
  have hD : va_D A (([(h0, .inr (7, [.int 0, .ref q1, .ref q3, .null, .null, .int 0, .null, .null])), (q1, .inl ((C 0), 10, .inl (fun _ => 0))), (q3, .inl ((C 0), 10, .inl (fun _ => 0)))] : va_W) ++ (cc_w C [] G0 ++ ([] : va_W))) := hD
  refine lv_aload_n hx hb dX7_init_25 rfl (lv_at hl 0 rfl) ?_
  refine lv_bipush (v := (10)) hx hb dX7_init_26 (by decide) ?_
  refine va_newa (atype := .int) (ty := .int) (N' := 10) (a0 := (10, .inl (fun _ => 0))) hx hb (hts (.arrayClass .int) (List.mem_cons_of_mem _ (List.mem_append_left _ (List.mem_of_getElem? (i := 4) rfl)))) rfl hK hP hD hS hA (fun cA => vp_cell_i cA 10 (fun _ => 0)) (by decide) (by decide) (by decide) (Nat.le_of_ble_eq_true rfl) (Nat.le_of_ble_eq_true rfl) dX7_init_28 (fun q5 cA6 H hK9 hP hD hS => ?_)
  have e9 := cc_cA hK9 0 rfl
  subst e9
  have hP := va_P.swap hP
  have hD := va_D.swap hD
  have hP : va_P D vwCl (([(h0, .inr (7, [.int 0, .ref q1, .ref q3, .null, .null, .int 0, .null, .null])), (q1, .inl ((C 0), 10, .inl (fun _ => 0))), (q3, .inl ((C 0), 10, .inl (fun _ => 0))), (q5, .inl ((C 0), 10, .inl (fun _ => 0)))] : va_W) ++ (cc_w C [] G0 ++ ([] : va_W))) H := hP
  have hD : va_D A (([(h0, .inr (7, [.int 0, .ref q1, .ref q3, .null, .null, .int 0, .null, .null])), (q1, .inl ((C 0), 10, .inl (fun _ => 0))), (q3, .inl ((C 0), 10, .inl (fun _ => 0))), (q5, .inl ((C 0), 10, .inl (fun _ => 0)))] : va_W) ++ (cc_w C [] G0 ++ ([] : va_W))) := hD
  refine W.widen (k := 3) (n := 30) (by omega) (by omega) ?_
  refine va_putF (D := D) (ci := 7) (v := .ref q5) (ty := .array .int) (C := RX7) (T := TX7) (N := 8) hx hb hts (fun w h => List.mem_cons_of_mem _ (List.mem_append_right _ (h))) tyX7 tyX7_ok nmX7 hown hK hP hD hS 0 rfl rfl 3 (by decide) (hts (.fieldLink RX7 22 "HiddenMoves$Side" "ownMoves" "[I") (List.mem_cons_of_mem _ (List.mem_append_left _ (List.mem_of_getElem? (i := 7) rfl)))) (fun _ h9 => h9) rfl hin rfl (by decide +kernel) rfl rfl (Nat.le_of_ble_eq_true rfl) dX7_init_30 (fun H locs hP hD hS => ?_)
  have hP : va_P D vwCl (([(h0, .inr (7, [.int 0, .ref q1, .ref q3, .ref q5, .null, .int 0, .null, .null])), (q1, .inl ((C 0), 10, .inl (fun _ => 0))), (q3, .inl ((C 0), 10, .inl (fun _ => 0))), (q5, .inl ((C 0), 10, .inl (fun _ => 0)))] : va_W) ++ (cc_w C [] G0 ++ ([] : va_W))) H := hP
  have hD : va_D A (([(h0, .inr (7, [.int 0, .ref q1, .ref q3, .ref q5, .null, .int 0, .null, .null])), (q1, .inl ((C 0), 10, .inl (fun _ => 0))), (q3, .inl ((C 0), 10, .inl (fun _ => 0))), (q5, .inl ((C 0), 10, .inl (fun _ => 0)))] : va_W) ++ (cc_w C [] G0 ++ ([] : va_W))) := hD
  refine lv_aload_n hx hb dX7_init_33 rfl (lv_at hl 0 rfl) ?_
  refine lv_bipush (v := (10)) hx hb dX7_init_34 (by decide) ?_
  refine va_newa (atype := .int) (ty := .int) (N' := 10) (a0 := (10, .inl (fun _ => 0))) hx hb (hts (.arrayClass .int) (List.mem_cons_of_mem _ (List.mem_append_left _ (List.mem_of_getElem? (i := 4) rfl)))) rfl hK hP hD hS hA (fun cA => vp_cell_i cA 10 (fun _ => 0)) (by decide) (by decide) (by decide) (Nat.le_of_ble_eq_true rfl) (Nat.le_of_ble_eq_true rfl) dX7_init_36 (fun q7 cA8 H hK9 hP hD hS => ?_)
  have e9 := cc_cA hK9 0 rfl
  subst e9
  have hP := va_P.swap hP
  have hD := va_D.swap hD
  have hP : va_P D vwCl (([(h0, .inr (7, [.int 0, .ref q1, .ref q3, .ref q5, .null, .int 0, .null, .null])), (q1, .inl ((C 0), 10, .inl (fun _ => 0))), (q3, .inl ((C 0), 10, .inl (fun _ => 0))), (q5, .inl ((C 0), 10, .inl (fun _ => 0))), (q7, .inl ((C 0), 10, .inl (fun _ => 0)))] : va_W) ++ (cc_w C [] G0 ++ ([] : va_W))) H := hP
  have hD : va_D A (([(h0, .inr (7, [.int 0, .ref q1, .ref q3, .ref q5, .null, .int 0, .null, .null])), (q1, .inl ((C 0), 10, .inl (fun _ => 0))), (q3, .inl ((C 0), 10, .inl (fun _ => 0))), (q5, .inl ((C 0), 10, .inl (fun _ => 0))), (q7, .inl ((C 0), 10, .inl (fun _ => 0)))] : va_W) ++ (cc_w C [] G0 ++ ([] : va_W))) := hD
  refine W.widen (k := 4) (n := 40) (by omega) (by omega) ?_
  refine va_putF (D := D) (ci := 7) (v := .ref q7) (ty := .array .int) (C := RX7) (T := TX7) (N := 8) hx hb hts (fun w h => List.mem_cons_of_mem _ (List.mem_append_right _ (h))) tyX7 tyX7_ok nmX7 hown hK hP hD hS 0 rfl rfl 4 (by decide) (hts (.fieldLink RX7 25 "HiddenMoves$Side" "deeds" "[I") (List.mem_cons_of_mem _ (List.mem_append_left _ (List.mem_of_getElem? (i := 8) rfl)))) (fun _ h9 => h9) rfl hin rfl (by decide +kernel) rfl rfl (Nat.le_of_ble_eq_true rfl) dX7_init_38 (fun H locs hP hD hS => ?_)
  have hP : va_P D vwCl (([(h0, .inr (7, [.int 0, .ref q1, .ref q3, .ref q5, .ref q7, .int 0, .null, .null])), (q1, .inl ((C 0), 10, .inl (fun _ => 0))), (q3, .inl ((C 0), 10, .inl (fun _ => 0))), (q5, .inl ((C 0), 10, .inl (fun _ => 0))), (q7, .inl ((C 0), 10, .inl (fun _ => 0)))] : va_W) ++ (cc_w C [] G0 ++ ([] : va_W))) H := hP
  have hD : va_D A (([(h0, .inr (7, [.int 0, .ref q1, .ref q3, .ref q5, .ref q7, .int 0, .null, .null])), (q1, .inl ((C 0), 10, .inl (fun _ => 0))), (q3, .inl ((C 0), 10, .inl (fun _ => 0))), (q5, .inl ((C 0), 10, .inl (fun _ => 0))), (q7, .inl ((C 0), 10, .inl (fun _ => 0)))] : va_W) ++ (cc_w C [] G0 ++ ([] : va_W))) := hD
  refine lv_aload_n hx hb dX7_init_41 rfl (lv_at hl 0 rfl) ?_
  refine lv_iconst (v := 1) hx hb dX7_init_42 (by decide) ?_
  refine va_put (D := D) (ci := 7) (v := .int 1) (ty := .int) (C := RX7) (T := TX7) (N := 8) hx hb hts (fun w h => List.mem_cons_of_mem _ (List.mem_append_right _ (h))) tyX7 tyX7_ok nmX7 hown hK hP hD hS 0 rfl rfl 5 (by decide) (hts (.fieldLink RX7 28 "HiddenMoves$Side" "lines" "I") (List.mem_cons_of_mem _ (List.mem_append_left _ (List.mem_of_getElem? (i := 9) rfl)))) (fun _ h9 => h9) rfl (by decide +kernel) rfl rfl (Nat.le_of_ble_eq_true rfl) dX7_init_43 (fun H locs hP hD hS => ?_)
  have hP : va_P D vwCl (([(h0, .inr (7, [.int 0, .ref q1, .ref q3, .ref q5, .ref q7, .int 1, .null, .null])), (q1, .inl ((C 0), 10, .inl (fun _ => 0))), (q3, .inl ((C 0), 10, .inl (fun _ => 0))), (q5, .inl ((C 0), 10, .inl (fun _ => 0))), (q7, .inl ((C 0), 10, .inl (fun _ => 0)))] : va_W) ++ (cc_w C [] G0 ++ ([] : va_W))) H := hP
  have hD : va_D A (([(h0, .inr (7, [.int 0, .ref q1, .ref q3, .ref q5, .ref q7, .int 1, .null, .null])), (q1, .inl ((C 0), 10, .inl (fun _ => 0))), (q3, .inl ((C 0), 10, .inl (fun _ => 0))), (q5, .inl ((C 0), 10, .inl (fun _ => 0))), (q7, .inl ((C 0), 10, .inl (fun _ => 0)))] : va_W) ++ (cc_w C [] G0 ++ ([] : va_W))) := hD
  refine lv_aload_n hx hb dX7_init_46 rfl (lv_at hl 0 rfl) ?_
  refine lv_bipush (v := (10)) hx hb dX7_init_47 (by decide) ?_
  refine va_newa (atype := .int) (ty := .int) (N' := 10) (a0 := (10, .inl (fun _ => 0))) hx hb (hts (.arrayClass .int) (List.mem_cons_of_mem _ (List.mem_append_left _ (List.mem_of_getElem? (i := 4) rfl)))) rfl hK hP hD hS hA (fun cA => vp_cell_i cA 10 (fun _ => 0)) (by decide) (by decide) (by decide) (Nat.le_of_ble_eq_true rfl) (Nat.le_of_ble_eq_true rfl) dX7_init_49 (fun q9 cA10 H hK9 hP hD hS => ?_)
  have e9 := cc_cA hK9 0 rfl
  subst e9
  have hP := va_P.swap hP
  have hD := va_D.swap hD
  have hP : va_P D vwCl (([(h0, .inr (7, [.int 0, .ref q1, .ref q3, .ref q5, .ref q7, .int 1, .null, .null])), (q1, .inl ((C 0), 10, .inl (fun _ => 0))), (q3, .inl ((C 0), 10, .inl (fun _ => 0))), (q5, .inl ((C 0), 10, .inl (fun _ => 0))), (q7, .inl ((C 0), 10, .inl (fun _ => 0))), (q9, .inl ((C 0), 10, .inl (fun _ => 0)))] : va_W) ++ (cc_w C [] G0 ++ ([] : va_W))) H := hP
  have hD : va_D A (([(h0, .inr (7, [.int 0, .ref q1, .ref q3, .ref q5, .ref q7, .int 1, .null, .null])), (q1, .inl ((C 0), 10, .inl (fun _ => 0))), (q3, .inl ((C 0), 10, .inl (fun _ => 0))), (q5, .inl ((C 0), 10, .inl (fun _ => 0))), (q7, .inl ((C 0), 10, .inl (fun _ => 0))), (q9, .inl ((C 0), 10, .inl (fun _ => 0)))] : va_W) ++ (cc_w C [] G0 ++ ([] : va_W))) := hD
  refine W.widen (k := 5) (n := 50) (by omega) (by omega) ?_
  refine va_putF (D := D) (ci := 7) (v := .ref q9) (ty := .array .int) (C := RX7) (T := TX7) (N := 8) hx hb hts (fun w h => List.mem_cons_of_mem _ (List.mem_append_right _ (h))) tyX7 tyX7_ok nmX7 hown hK hP hD hS 0 rfl rfl 6 (by decide) (hts (.fieldLink RX7 31 "HiddenMoves$Side" "firstLines" "[I") (List.mem_cons_of_mem _ (List.mem_append_left _ (List.mem_of_getElem? (i := 10) rfl)))) (fun _ h9 => h9) rfl hin rfl (by decide +kernel) rfl rfl (Nat.le_of_ble_eq_true rfl) dX7_init_51 (fun H locs hP hD hS => ?_)
  have hP : va_P D vwCl (([(h0, .inr (7, [.int 0, .ref q1, .ref q3, .ref q5, .ref q7, .int 1, .ref q9, .null])), (q1, .inl ((C 0), 10, .inl (fun _ => 0))), (q3, .inl ((C 0), 10, .inl (fun _ => 0))), (q5, .inl ((C 0), 10, .inl (fun _ => 0))), (q7, .inl ((C 0), 10, .inl (fun _ => 0))), (q9, .inl ((C 0), 10, .inl (fun _ => 0)))] : va_W) ++ (cc_w C [] G0 ++ ([] : va_W))) H := hP
  have hD : va_D A (([(h0, .inr (7, [.int 0, .ref q1, .ref q3, .ref q5, .ref q7, .int 1, .ref q9, .null])), (q1, .inl ((C 0), 10, .inl (fun _ => 0))), (q3, .inl ((C 0), 10, .inl (fun _ => 0))), (q5, .inl ((C 0), 10, .inl (fun _ => 0))), (q7, .inl ((C 0), 10, .inl (fun _ => 0))), (q9, .inl ((C 0), 10, .inl (fun _ => 0)))] : va_W) ++ (cc_w C [] G0 ++ ([] : va_W))) := hD
  refine lv_aload_n hx hb dX7_init_54 rfl (lv_at hl 0 rfl) ?_
  refine lv_bipush (v := (10)) hx hb dX7_init_55 (by decide) ?_
  refine va_newa (atype := .int) (ty := .int) (N' := 10) (a0 := (10, .inl (fun _ => 0))) hx hb (hts (.arrayClass .int) (List.mem_cons_of_mem _ (List.mem_append_left _ (List.mem_of_getElem? (i := 4) rfl)))) rfl hK hP hD hS hA (fun cA => vp_cell_i cA 10 (fun _ => 0)) (by decide) (by decide) (by decide) (Nat.le_of_ble_eq_true rfl) (Nat.le_of_ble_eq_true rfl) dX7_init_57 (fun q11 cA12 H hK9 hP hD hS => ?_)
  have e9 := cc_cA hK9 0 rfl
  subst e9
  have hP := va_P.swap hP
  have hD := va_D.swap hD
  have hP : va_P D vwCl (([(h0, .inr (7, [.int 0, .ref q1, .ref q3, .ref q5, .ref q7, .int 1, .ref q9, .null])), (q1, .inl ((C 0), 10, .inl (fun _ => 0))), (q3, .inl ((C 0), 10, .inl (fun _ => 0))), (q5, .inl ((C 0), 10, .inl (fun _ => 0))), (q7, .inl ((C 0), 10, .inl (fun _ => 0))), (q9, .inl ((C 0), 10, .inl (fun _ => 0))), (q11, .inl ((C 0), 10, .inl (fun _ => 0)))] : va_W) ++ (cc_w C [] G0 ++ ([] : va_W))) H := hP
  have hD : va_D A (([(h0, .inr (7, [.int 0, .ref q1, .ref q3, .ref q5, .ref q7, .int 1, .ref q9, .null])), (q1, .inl ((C 0), 10, .inl (fun _ => 0))), (q3, .inl ((C 0), 10, .inl (fun _ => 0))), (q5, .inl ((C 0), 10, .inl (fun _ => 0))), (q7, .inl ((C 0), 10, .inl (fun _ => 0))), (q9, .inl ((C 0), 10, .inl (fun _ => 0))), (q11, .inl ((C 0), 10, .inl (fun _ => 0)))] : va_W) ++ (cc_w C [] G0 ++ ([] : va_W))) := hD
  refine W.widen (k := 6) (n := 60) (by omega) (by omega) ?_
  refine va_putF (D := D) (ci := 7) (v := .ref q11) (ty := .array .int) (C := RX7) (T := TX7) (N := 8) hx hb hts (fun w h => List.mem_cons_of_mem _ (List.mem_append_right _ (h))) tyX7 tyX7_ok nmX7 hown hK hP hD hS 0 rfl rfl 7 (by decide) (hts (.fieldLink RX7 34 "HiddenMoves$Side" "parentLines" "[I") (List.mem_cons_of_mem _ (List.mem_append_left _ (List.mem_of_getElem? (i := 11) rfl)))) (fun _ h9 => h9) rfl hin rfl (by decide +kernel) rfl rfl (Nat.le_of_ble_eq_true rfl) dX7_init_59 (fun H locs hP hD hS => ?_)
  have hP : va_P D vwCl (([(h0, .inr (7, [.int 0, .ref q1, .ref q3, .ref q5, .ref q7, .int 1, .ref q9, .ref q11])), (q1, .inl ((C 0), 10, .inl (fun _ => 0))), (q3, .inl ((C 0), 10, .inl (fun _ => 0))), (q5, .inl ((C 0), 10, .inl (fun _ => 0))), (q7, .inl ((C 0), 10, .inl (fun _ => 0))), (q9, .inl ((C 0), 10, .inl (fun _ => 0))), (q11, .inl ((C 0), 10, .inl (fun _ => 0)))] : va_W) ++ (cc_w C [] G0 ++ ([] : va_W))) H := hP
  have hD : va_D A (([(h0, .inr (7, [.int 0, .ref q1, .ref q3, .ref q5, .ref q7, .int 1, .ref q9, .ref q11])), (q1, .inl ((C 0), 10, .inl (fun _ => 0))), (q3, .inl ((C 0), 10, .inl (fun _ => 0))), (q5, .inl ((C 0), 10, .inl (fun _ => 0))), (q7, .inl ((C 0), 10, .inl (fun _ => 0))), (q9, .inl ((C 0), 10, .inl (fun _ => 0))), (q11, .inl ((C 0), 10, .inl (fun _ => 0)))] : va_W) ++ (cc_w C [] G0 ++ ([] : va_W))) := hD
  have hP := va_P.part (X := [(h0, .inr (7, [.int 0, .ref q1, .ref q3, .ref q5, .ref q7, .int 1, .ref q9, .ref q11])), (q1, .inl ((C 0), 10, .inl (fun _ => 0))), (q3, .inl ((C 0), 10, .inl (fun _ => 0))), (q5, .inl ((C 0), 10, .inl (fun _ => 0))), (q7, .inl ((C 0), 10, .inl (fun _ => 0))), (q9, .inl ((C 0), 10, .inl (fun _ => 0))), (q11, .inl ((C 0), 10, .inl (fun _ => 0)))]) (cx := [(h0, .inr (7, [.int 0, .ref q1, .ref q3, .ref q5, .ref q7, .int 1, .ref q9, .ref q11])), (q3, .inl ((C 0), 10, .inl (fun _ => 0))), (q5, .inl ((C 0), 10, .inl (fun _ => 0))), (q7, .inl ((C 0), 10, .inl (fun _ => 0))), (q9, .inl ((C 0), 10, .inl (fun _ => 0))), (q11, .inl ((C 0), 10, .inl (fun _ => 0))), (q1, .inl ((C 0), 10, .inl (fun _ => 0)))]) hP [0, 2, 3, 4, 5, 6, 1] rfl
  have hD := va_D.part (X := [(h0, .inr (7, [.int 0, .ref q1, .ref q3, .ref q5, .ref q7, .int 1, .ref q9, .ref q11])), (q1, .inl ((C 0), 10, .inl (fun _ => 0))), (q3, .inl ((C 0), 10, .inl (fun _ => 0))), (q5, .inl ((C 0), 10, .inl (fun _ => 0))), (q7, .inl ((C 0), 10, .inl (fun _ => 0))), (q9, .inl ((C 0), 10, .inl (fun _ => 0))), (q11, .inl ((C 0), 10, .inl (fun _ => 0)))]) (cx := [(h0, .inr (7, [.int 0, .ref q1, .ref q3, .ref q5, .ref q7, .int 1, .ref q9, .ref q11])), (q3, .inl ((C 0), 10, .inl (fun _ => 0))), (q5, .inl ((C 0), 10, .inl (fun _ => 0))), (q7, .inl ((C 0), 10, .inl (fun _ => 0))), (q9, .inl ((C 0), 10, .inl (fun _ => 0))), (q11, .inl ((C 0), 10, .inl (fun _ => 0))), (q1, .inl ((C 0), 10, .inl (fun _ => 0)))]) hD [0, 2, 3, 4, 5, 6, 1] (by decide) rfl
  obtain ⟨Lk1, Gk1, hP, hD, xk1, uk1, mk1, kk1, ak1⟩ := cc_absorbArr (X := [(h0, .inr (7, [.int 0, .ref q1, .ref q3, .ref q5, .ref q7, .int 1, .ref q9, .ref q11])), (q3, .inl ((C 0), 10, .inl (fun _ => 0))), (q5, .inl ((C 0), 10, .inl (fun _ => 0))), (q7, .inl ((C 0), 10, .inl (fun _ => 0))), (q9, .inl ((C 0), 10, .inl (fun _ => 0))), (q11, .inl ((C 0), 10, .inl (fun _ => 0)))]) (q := q1) (t := 0) (n := 10) (e := .inl ((C 0), 10, .inl (fun _ => 0))) (fun _ => 0) rfl hP hD hU0 (h0, 1) (fun i => ⟨fun _ => by decide, fun _ => by decide, fun _ => by decide, fun _ => Or.inl rfl⟩)
  have hP : va_P D vwCl (([(h0, .inr (7, [.int 0, .ref q1, .ref q3, .ref q5, .ref q7, .int 1, .ref q9, .ref q11])), (q3, .inl ((C 0), 10, .inl (fun _ => 0))), (q5, .inl ((C 0), 10, .inl (fun _ => 0))), (q7, .inl ((C 0), 10, .inl (fun _ => 0))), (q9, .inl ((C 0), 10, .inl (fun _ => 0))), (q11, .inl ((C 0), 10, .inl (fun _ => 0)))] : va_W) ++ (cc_w C Lk1 Gk1 ++ ([] : va_W))) H := hP
  have hD : va_D A (([(h0, .inr (7, [.int 0, .ref q1, .ref q3, .ref q5, .ref q7, .int 1, .ref q9, .ref q11])), (q3, .inl ((C 0), 10, .inl (fun _ => 0))), (q5, .inl ((C 0), 10, .inl (fun _ => 0))), (q7, .inl ((C 0), 10, .inl (fun _ => 0))), (q9, .inl ((C 0), 10, .inl (fun _ => 0))), (q11, .inl ((C 0), 10, .inl (fun _ => 0)))] : va_W) ++ (cc_w C Lk1 Gk1 ++ ([] : va_W))) := hD
  have hP := va_P.part (X := [(h0, .inr (7, [.int 0, .ref q1, .ref q3, .ref q5, .ref q7, .int 1, .ref q9, .ref q11])), (q3, .inl ((C 0), 10, .inl (fun _ => 0))), (q5, .inl ((C 0), 10, .inl (fun _ => 0))), (q7, .inl ((C 0), 10, .inl (fun _ => 0))), (q9, .inl ((C 0), 10, .inl (fun _ => 0))), (q11, .inl ((C 0), 10, .inl (fun _ => 0)))]) (cx := [(h0, .inr (7, [.int 0, .ref q1, .ref q3, .ref q5, .ref q7, .int 1, .ref q9, .ref q11])), (q5, .inl ((C 0), 10, .inl (fun _ => 0))), (q7, .inl ((C 0), 10, .inl (fun _ => 0))), (q9, .inl ((C 0), 10, .inl (fun _ => 0))), (q11, .inl ((C 0), 10, .inl (fun _ => 0))), (q3, .inl ((C 0), 10, .inl (fun _ => 0)))]) hP [0, 2, 3, 4, 5, 1] rfl
  have hD := va_D.part (X := [(h0, .inr (7, [.int 0, .ref q1, .ref q3, .ref q5, .ref q7, .int 1, .ref q9, .ref q11])), (q3, .inl ((C 0), 10, .inl (fun _ => 0))), (q5, .inl ((C 0), 10, .inl (fun _ => 0))), (q7, .inl ((C 0), 10, .inl (fun _ => 0))), (q9, .inl ((C 0), 10, .inl (fun _ => 0))), (q11, .inl ((C 0), 10, .inl (fun _ => 0)))]) (cx := [(h0, .inr (7, [.int 0, .ref q1, .ref q3, .ref q5, .ref q7, .int 1, .ref q9, .ref q11])), (q5, .inl ((C 0), 10, .inl (fun _ => 0))), (q7, .inl ((C 0), 10, .inl (fun _ => 0))), (q9, .inl ((C 0), 10, .inl (fun _ => 0))), (q11, .inl ((C 0), 10, .inl (fun _ => 0))), (q3, .inl ((C 0), 10, .inl (fun _ => 0)))]) hD [0, 2, 3, 4, 5, 1] (by decide) rfl
  obtain ⟨Lk2, Gk2, hP, hD, xk2, uk2, mk2, kk2, ak2⟩ := cc_absorbArr (X := [(h0, .inr (7, [.int 0, .ref q1, .ref q3, .ref q5, .ref q7, .int 1, .ref q9, .ref q11])), (q5, .inl ((C 0), 10, .inl (fun _ => 0))), (q7, .inl ((C 0), 10, .inl (fun _ => 0))), (q9, .inl ((C 0), 10, .inl (fun _ => 0))), (q11, .inl ((C 0), 10, .inl (fun _ => 0)))]) (q := q3) (t := 0) (n := 10) (e := .inl ((C 0), 10, .inl (fun _ => 0))) (fun _ => 0) rfl hP hD uk1 (h0, 2) (fun i => ⟨fun _ => by decide, fun _ => by decide, fun _ => by decide, fun _ => Or.inl rfl⟩)
  have hP : va_P D vwCl (([(h0, .inr (7, [.int 0, .ref q1, .ref q3, .ref q5, .ref q7, .int 1, .ref q9, .ref q11])), (q5, .inl ((C 0), 10, .inl (fun _ => 0))), (q7, .inl ((C 0), 10, .inl (fun _ => 0))), (q9, .inl ((C 0), 10, .inl (fun _ => 0))), (q11, .inl ((C 0), 10, .inl (fun _ => 0)))] : va_W) ++ (cc_w C Lk2 Gk2 ++ ([] : va_W))) H := hP
  have hD : va_D A (([(h0, .inr (7, [.int 0, .ref q1, .ref q3, .ref q5, .ref q7, .int 1, .ref q9, .ref q11])), (q5, .inl ((C 0), 10, .inl (fun _ => 0))), (q7, .inl ((C 0), 10, .inl (fun _ => 0))), (q9, .inl ((C 0), 10, .inl (fun _ => 0))), (q11, .inl ((C 0), 10, .inl (fun _ => 0)))] : va_W) ++ (cc_w C Lk2 Gk2 ++ ([] : va_W))) := hD
  have hP := va_P.part (X := [(h0, .inr (7, [.int 0, .ref q1, .ref q3, .ref q5, .ref q7, .int 1, .ref q9, .ref q11])), (q5, .inl ((C 0), 10, .inl (fun _ => 0))), (q7, .inl ((C 0), 10, .inl (fun _ => 0))), (q9, .inl ((C 0), 10, .inl (fun _ => 0))), (q11, .inl ((C 0), 10, .inl (fun _ => 0)))]) (cx := [(h0, .inr (7, [.int 0, .ref q1, .ref q3, .ref q5, .ref q7, .int 1, .ref q9, .ref q11])), (q7, .inl ((C 0), 10, .inl (fun _ => 0))), (q9, .inl ((C 0), 10, .inl (fun _ => 0))), (q11, .inl ((C 0), 10, .inl (fun _ => 0))), (q5, .inl ((C 0), 10, .inl (fun _ => 0)))]) hP [0, 2, 3, 4, 1] rfl
  have hD := va_D.part (X := [(h0, .inr (7, [.int 0, .ref q1, .ref q3, .ref q5, .ref q7, .int 1, .ref q9, .ref q11])), (q5, .inl ((C 0), 10, .inl (fun _ => 0))), (q7, .inl ((C 0), 10, .inl (fun _ => 0))), (q9, .inl ((C 0), 10, .inl (fun _ => 0))), (q11, .inl ((C 0), 10, .inl (fun _ => 0)))]) (cx := [(h0, .inr (7, [.int 0, .ref q1, .ref q3, .ref q5, .ref q7, .int 1, .ref q9, .ref q11])), (q7, .inl ((C 0), 10, .inl (fun _ => 0))), (q9, .inl ((C 0), 10, .inl (fun _ => 0))), (q11, .inl ((C 0), 10, .inl (fun _ => 0))), (q5, .inl ((C 0), 10, .inl (fun _ => 0)))]) hD [0, 2, 3, 4, 1] (by decide) rfl
  obtain ⟨Lk3, Gk3, hP, hD, xk3, uk3, mk3, kk3, ak3⟩ := cc_absorbArr (X := [(h0, .inr (7, [.int 0, .ref q1, .ref q3, .ref q5, .ref q7, .int 1, .ref q9, .ref q11])), (q7, .inl ((C 0), 10, .inl (fun _ => 0))), (q9, .inl ((C 0), 10, .inl (fun _ => 0))), (q11, .inl ((C 0), 10, .inl (fun _ => 0)))]) (q := q5) (t := 0) (n := 10) (e := .inl ((C 0), 10, .inl (fun _ => 0))) (fun _ => 0) rfl hP hD uk2 (h0, 3) (fun i => ⟨fun _ => by decide, fun _ => by decide, fun _ => by decide, fun _ => Or.inl rfl⟩)
  have hP : va_P D vwCl (([(h0, .inr (7, [.int 0, .ref q1, .ref q3, .ref q5, .ref q7, .int 1, .ref q9, .ref q11])), (q7, .inl ((C 0), 10, .inl (fun _ => 0))), (q9, .inl ((C 0), 10, .inl (fun _ => 0))), (q11, .inl ((C 0), 10, .inl (fun _ => 0)))] : va_W) ++ (cc_w C Lk3 Gk3 ++ ([] : va_W))) H := hP
  have hD : va_D A (([(h0, .inr (7, [.int 0, .ref q1, .ref q3, .ref q5, .ref q7, .int 1, .ref q9, .ref q11])), (q7, .inl ((C 0), 10, .inl (fun _ => 0))), (q9, .inl ((C 0), 10, .inl (fun _ => 0))), (q11, .inl ((C 0), 10, .inl (fun _ => 0)))] : va_W) ++ (cc_w C Lk3 Gk3 ++ ([] : va_W))) := hD
  have hP := va_P.part (X := [(h0, .inr (7, [.int 0, .ref q1, .ref q3, .ref q5, .ref q7, .int 1, .ref q9, .ref q11])), (q7, .inl ((C 0), 10, .inl (fun _ => 0))), (q9, .inl ((C 0), 10, .inl (fun _ => 0))), (q11, .inl ((C 0), 10, .inl (fun _ => 0)))]) (cx := [(h0, .inr (7, [.int 0, .ref q1, .ref q3, .ref q5, .ref q7, .int 1, .ref q9, .ref q11])), (q9, .inl ((C 0), 10, .inl (fun _ => 0))), (q11, .inl ((C 0), 10, .inl (fun _ => 0))), (q7, .inl ((C 0), 10, .inl (fun _ => 0)))]) hP [0, 2, 3, 1] rfl
  have hD := va_D.part (X := [(h0, .inr (7, [.int 0, .ref q1, .ref q3, .ref q5, .ref q7, .int 1, .ref q9, .ref q11])), (q7, .inl ((C 0), 10, .inl (fun _ => 0))), (q9, .inl ((C 0), 10, .inl (fun _ => 0))), (q11, .inl ((C 0), 10, .inl (fun _ => 0)))]) (cx := [(h0, .inr (7, [.int 0, .ref q1, .ref q3, .ref q5, .ref q7, .int 1, .ref q9, .ref q11])), (q9, .inl ((C 0), 10, .inl (fun _ => 0))), (q11, .inl ((C 0), 10, .inl (fun _ => 0))), (q7, .inl ((C 0), 10, .inl (fun _ => 0)))]) hD [0, 2, 3, 1] (by decide) rfl
  obtain ⟨Lk4, Gk4, hP, hD, xk4, uk4, mk4, kk4, ak4⟩ := cc_absorbArr (X := [(h0, .inr (7, [.int 0, .ref q1, .ref q3, .ref q5, .ref q7, .int 1, .ref q9, .ref q11])), (q9, .inl ((C 0), 10, .inl (fun _ => 0))), (q11, .inl ((C 0), 10, .inl (fun _ => 0)))]) (q := q7) (t := 0) (n := 10) (e := .inl ((C 0), 10, .inl (fun _ => 0))) (fun _ => 0) rfl hP hD uk3 (h0, 4) (fun i => ⟨fun _ => by decide, fun _ => by decide, fun _ => by decide, fun _ => Or.inl rfl⟩)
  have hP : va_P D vwCl (([(h0, .inr (7, [.int 0, .ref q1, .ref q3, .ref q5, .ref q7, .int 1, .ref q9, .ref q11])), (q9, .inl ((C 0), 10, .inl (fun _ => 0))), (q11, .inl ((C 0), 10, .inl (fun _ => 0)))] : va_W) ++ (cc_w C Lk4 Gk4 ++ ([] : va_W))) H := hP
  have hD : va_D A (([(h0, .inr (7, [.int 0, .ref q1, .ref q3, .ref q5, .ref q7, .int 1, .ref q9, .ref q11])), (q9, .inl ((C 0), 10, .inl (fun _ => 0))), (q11, .inl ((C 0), 10, .inl (fun _ => 0)))] : va_W) ++ (cc_w C Lk4 Gk4 ++ ([] : va_W))) := hD
  have hP := va_P.part (X := [(h0, .inr (7, [.int 0, .ref q1, .ref q3, .ref q5, .ref q7, .int 1, .ref q9, .ref q11])), (q9, .inl ((C 0), 10, .inl (fun _ => 0))), (q11, .inl ((C 0), 10, .inl (fun _ => 0)))]) (cx := [(h0, .inr (7, [.int 0, .ref q1, .ref q3, .ref q5, .ref q7, .int 1, .ref q9, .ref q11])), (q11, .inl ((C 0), 10, .inl (fun _ => 0))), (q9, .inl ((C 0), 10, .inl (fun _ => 0)))]) hP [0, 2, 1] rfl
  have hD := va_D.part (X := [(h0, .inr (7, [.int 0, .ref q1, .ref q3, .ref q5, .ref q7, .int 1, .ref q9, .ref q11])), (q9, .inl ((C 0), 10, .inl (fun _ => 0))), (q11, .inl ((C 0), 10, .inl (fun _ => 0)))]) (cx := [(h0, .inr (7, [.int 0, .ref q1, .ref q3, .ref q5, .ref q7, .int 1, .ref q9, .ref q11])), (q11, .inl ((C 0), 10, .inl (fun _ => 0))), (q9, .inl ((C 0), 10, .inl (fun _ => 0)))]) hD [0, 2, 1] (by decide) rfl
  obtain ⟨Lk5, Gk5, hP, hD, xk5, uk5, mk5, kk5, ak5⟩ := cc_absorbArr (X := [(h0, .inr (7, [.int 0, .ref q1, .ref q3, .ref q5, .ref q7, .int 1, .ref q9, .ref q11])), (q11, .inl ((C 0), 10, .inl (fun _ => 0)))]) (q := q9) (t := 0) (n := 10) (e := .inl ((C 0), 10, .inl (fun _ => 0))) (fun _ => 0) rfl hP hD uk4 (h0, 6) (fun i => ⟨fun _ => by decide, fun _ => by decide, fun _ => by decide, fun _ => Or.inl rfl⟩)
  have hP : va_P D vwCl (([(h0, .inr (7, [.int 0, .ref q1, .ref q3, .ref q5, .ref q7, .int 1, .ref q9, .ref q11])), (q11, .inl ((C 0), 10, .inl (fun _ => 0)))] : va_W) ++ (cc_w C Lk5 Gk5 ++ ([] : va_W))) H := hP
  have hD : va_D A (([(h0, .inr (7, [.int 0, .ref q1, .ref q3, .ref q5, .ref q7, .int 1, .ref q9, .ref q11])), (q11, .inl ((C 0), 10, .inl (fun _ => 0)))] : va_W) ++ (cc_w C Lk5 Gk5 ++ ([] : va_W))) := hD
  obtain ⟨Lk6, Gk6, hP, hD, xk6, uk6, mk6, kk6, ak6⟩ := cc_absorbArr (X := [(h0, .inr (7, [.int 0, .ref q1, .ref q3, .ref q5, .ref q7, .int 1, .ref q9, .ref q11]))]) (q := q11) (t := 0) (n := 10) (e := .inl ((C 0), 10, .inl (fun _ => 0))) (fun _ => 0) rfl hP hD uk5 (h0, 7) (fun i => ⟨fun _ => by decide, fun _ => by decide, fun _ => by decide, fun _ => Or.inl rfl⟩)
  have hP : va_P D vwCl (([(h0, .inr (7, [.int 0, .ref q1, .ref q3, .ref q5, .ref q7, .int 1, .ref q9, .ref q11]))] : va_W) ++ (cc_w C Lk6 Gk6 ++ ([] : va_W))) H := hP
  have hD : va_D A (([(h0, .inr (7, [.int 0, .ref q1, .ref q3, .ref q5, .ref q7, .int 1, .ref q9, .ref q11]))] : va_W) ++ (cc_w C Lk6 Gk6 ++ ([] : va_W))) := hD
  obtain ⟨Gf, hP, hD, nf, eG, xf⟩ := cc_absorb (X := []) (q := h0) (e := .inr (7, [.int 0, .ref q1, .ref q3, .ref q5, .ref q7, .int 1, .ref q9, .ref q11])) (e' := .inr (7, [.int 0, .ref q1, .ref q3, .ref q5, .ref q7, .int 1, .ref q9, .ref q11])) (.inl 7) (fun j => ([0, 0, 0, 0, 0, 1, 0, 0] : List Int).getD j 0) (fun j => ([0, q1, q3, q5, q7, 0, q9, q11] : List Nat).getD j 0) (fun _ => 0) rfl (fun h => h) hP hD
  have fr : ∀ j : Nat, gr Gf h0 j = (fun j => ([0, q1, q3, q5, q7, 0, q9, q11] : List Nat).getD j 0) j := fun j => congrFun (congrArg (fun x : cG => x.2.2.1) eG) j
  have fz : ∀ j : Nat, gz Gf h0 j = (fun j => ([0, 0, 0, 0, 0, 1, 0, 0] : List Int).getD j 0) j := fun j => congrFun (congrArg (fun x : cG => x.2.1) eG) j
  have fk : gK Gf h0 = .inl 7 := congrArg (fun x : cG => x.1) eG
  have hR : cc_R (h0 :: Lk6) Gf 7 h0 := ⟨⟨List.mem_cons_self, fk⟩, fun o => cc_U_imp (cc_U_obj uk6 nf xf o fk (fun F f1 fρ hd => ⟨cl_A xf (by decide) (fr 1) ((cx_t xk2 (cx_t xk3 (cx_t xk4 (cx_t xk5 xk6)))) _ mk1).1 ((gK_e (cx_t xk2 (cx_t xk3 (cx_t xk4 (cx_t xk5 xk6)))) mk1).trans kk1) (f1 _ _ (Or.inr (Or.inr (Or.inr (Or.inr (Or.inr (Or.inl ⟨rfl, rfl⟩))))))).2 fρ, cl_A xf (by decide) (fr 2) ((cx_t xk3 (cx_t xk4 (cx_t xk5 xk6))) _ mk2).1 ((gK_e (cx_t xk3 (cx_t xk4 (cx_t xk5 xk6))) mk2).trans kk2) (f1 _ _ (Or.inr (Or.inr (Or.inr (Or.inr (Or.inl ⟨rfl, rfl⟩)))))).2 fρ, cl_A xf (by decide) (fr 3) ((cx_t xk4 (cx_t xk5 xk6)) _ mk3).1 ((gK_e (cx_t xk4 (cx_t xk5 xk6)) mk3).trans kk3) (f1 _ _ (Or.inr (Or.inr (Or.inr (Or.inl ⟨rfl, rfl⟩))))).2 fρ, cl_A xf (by decide) (fr 4) ((cx_t xk5 xk6) _ mk4).1 ((gK_e (cx_t xk5 xk6) mk4).trans kk4) (f1 _ _ (Or.inr (Or.inr (Or.inl ⟨rfl, rfl⟩)))).2 fρ, cl_A xf (by decide) (fr 6) (xk6 _ mk5).1 ((gK_e xk6 mk5).trans kk5) (f1 _ _ (Or.inr (Or.inl ⟨rfl, rfl⟩))).2 fρ, cl_A xf (by decide) (fr 7) mk6 kk6 (f1 _ _ (Or.inl ⟨rfl, rfl⟩)).2 fρ⟩)) (fun b o9 hb => Or.inl hb)⟩
  rw [List.nil_append, List.append_nil] at hP hD
  refine W.widen (k := 6) (n := 60) (by omega) (by omega) ?_
  exact W.vret hx hb hr (fun t ht hW => ⟨⟨(), rfl, trivial, _, _, hR, by rw [ht]; exact hP, va_K.moved hW.alike hK, hD⟩, hS.F ht⟩) hS.2.2 dX7_init_62

set_option maxHeartbeats 4000000 in
set_option maxRecDepth 100000 in
/-- Words() -/
theorem n_X10_init (l : Launch) (D : va_G) (C : Nat → ClassId) (h0 sz : Nat) : Met l yX10_init wsX10_init ({ frames := 1, cells := 1, slots := 4000, locals := 12 }) (va_Pc [.ref h0] (hm_P D [(h0, .inr (10, [.null, .int 0, .int 0, .int 0, .int 0, .int 0]))] (cw_t C) sz)) (va_Qv (fun _ : Unit => True) (fun _ t => ∃ (L : List Nat) (G : Nat → cG), (cc_R L G 10 h0 ∧ cl_T L (gK G) (gr G) (gz G) (gA G) h0 ∧ gz G h0 1 = 0) ∧ hm_B D (va_A [(h0, .inr (10, [.null, .int 0, .int 0, .int 0, .int 0, .int 0]))] sz) (cc_w C L G) (cw_t C) t) (va_A [(h0, .inr (10, [.null, .int 0, .int 0, .int 0, .int 0, .int 0]))] sz)) 1 4000 (va_A [(h0, .inr (10, [.null, .int 0, .int 0, .int 0, .int 0, .int 0]))] sz) := by
  refine Met.ofW (cc := cX10_init) (maxL := 1) (ret := none) (by decide) rfl ?_
  intro p e s m args below meth c s₁ B hml hv
  obtain ⟨rfl, hsz, hP, hK, hD0, hE⟩ := hv
  have hx := B.exec
  have hb := B.bytes
  have hr := B.returns
  have hts := atoms_spec (ws := wsX10_init) B.pre
  have hown : s.vm.findClass RX10 = some m.cls := findClass_of_methodNamed B.named
  have hlocks := B.notSynchronized
  have hin : meth.name = "<init>" := (name_of_methodNamed B.named B.method).1
  subst hsz
  have hD := hD0.self (sz := s.heap.size)
  generalize hAe : va_A [(h0, .inr (10, [.null, .int 0, .int 0, .int 0, .int 0, .int 0]))] s.heap.size = A at hD ⊢
  have hA : ∀ q : Nat, s.heap.size ≤ q → A q := fun q h => by rw [← hAe]; exact Or.inr h
  have hS : va_S A s.heap s.heap [] := va_S.rf
  have hP : va_P D vwCl [(h0, .inr (10, [.null, .int 0, .int 0, .int 0, .int 0, .int 0]))] s.heap := hP
  have hl := lv_entry ([.ref h0]) (n := 1) (Nat.le_of_ble_eq_true rfl)
  rw [lg_entry_eq]
  generalize (lg_sl ([.ref h0]) ++ List.replicate (1 - (lg_sl ([.ref h0])).length) Slot.unset).toArray = ls at hl ⊢
  have hl : lv_has ls 1 [(0, .ref h0)] := hl
  obtain ⟨G0, -⟩ : ∃ G : Nat → cG, True := ⟨fun _ => (.inl 0, fun _ => 0, fun _ => 0, fun _ => 0), trivial⟩
  have hU0 := cc_U_nil G0
  have hP : va_P D vwCl (([(h0, .inr (10, [.null, .int 0, .int 0, .int 0, .int 0, .int 0]))] : va_W) ++ (cc_w C [] G0 ++ ([] : va_W))) s.heap := hP
  have hD : va_D A (([(h0, .inr (10, [.null, .int 0, .int 0, .int 0, .int 0, .int 0]))] : va_W) ++ (cc_w C [] G0 ++ ([] : va_W))) := hD
  refine lv_aload_n hx hb dX10_init_0 rfl (lv_at hl 0 rfl) ?_
  refine W.objInit hx hb hown (hts (.methodLink RX10 3 objectInit) (List.mem_cons_of_mem _ (List.mem_append_left _ (List.mem_of_getElem? (i := 0) rfl)))) (hts (.instanceMethod objectInit) (List.mem_cons_of_mem _ (List.mem_append_left _ (List.mem_of_getElem? (i := 1) rfl)))) (hts _ (List.mem_of_getElem? (i := 3) rfl)) rfl (by rw [hml]; exact hl.1) rfl dX10_init_1 (Nat.le_of_ble_eq_true rfl) (Nat.le_of_ble_eq_true rfl) ?_
  refine W.eq (g2 := F0 m 4 ls []) rfl ?_
  refine lv_aload_n hx hb dX10_init_4 rfl (lv_at hl 0 rfl) ?_
  refine lv_sipush (v := (4000)) hx hb dX10_init_5 (by decide) ?_
  refine va_newa (atype := .char) (ty := .char) (N' := 4000) (a0 := (4000, .inl (fun _ => 0))) hx hb (hts (.arrayClass .char) (List.mem_cons_of_mem _ (List.mem_append_left _ (List.mem_of_getElem? (i := 3) rfl)))) rfl hK hP hD hS hA (fun cA => vp_cell_i cA 4000 (fun _ => 0)) (by decide) (by decide) (by decide) (Nat.le_of_ble_eq_true rfl) (Nat.le_of_ble_eq_true rfl) dX10_init_8 (fun q1 cA2 H hK9 hP hD hS => ?_)
  have e9 := cc_cA hK9 2 rfl
  subst e9
  have hP := va_P.swap hP
  have hD := va_D.swap hD
  have hP : va_P D vwCl (([(h0, .inr (10, [.null, .int 0, .int 0, .int 0, .int 0, .int 0])), (q1, .inl ((C 2), 4000, .inl (fun _ => 0)))] : va_W) ++ (cc_w C [] G0 ++ ([] : va_W))) H := hP
  have hD : va_D A (([(h0, .inr (10, [.null, .int 0, .int 0, .int 0, .int 0, .int 0])), (q1, .inl ((C 2), 4000, .inl (fun _ => 0)))] : va_W) ++ (cc_w C [] G0 ++ ([] : va_W))) := hD
  refine W.widen (k := 1) (n := 4000) (by omega) (by omega) ?_
  refine va_putF (D := D) (ci := 10) (v := .ref q1) (ty := .array .char) (C := RX10) (T := TX10) (N := 6) hx hb hts (fun w h => List.mem_cons_of_mem _ (List.mem_append_right _ (h))) tyX10 tyX10_ok nmX10 hown hK hP hD hS 0 rfl rfl 0 (by decide) (hts (.fieldLink RX10 9 "HiddenMoves$Words" "characters" "[C") (List.mem_cons_of_mem _ (List.mem_append_left _ (List.mem_of_getElem? (i := 4) rfl)))) (fun _ h9 => h9) rfl hin rfl (by decide +kernel) rfl rfl (Nat.le_of_ble_eq_true rfl) dX10_init_10 (fun H locs hP hD hS => ?_)
  have hP : va_P D vwCl (([(h0, .inr (10, [.ref q1, .int 0, .int 0, .int 0, .int 0, .int 0])), (q1, .inl ((C 2), 4000, .inl (fun _ => 0)))] : va_W) ++ (cc_w C [] G0 ++ ([] : va_W))) H := hP
  have hD : va_D A (([(h0, .inr (10, [.ref q1, .int 0, .int 0, .int 0, .int 0, .int 0])), (q1, .inl ((C 2), 4000, .inl (fun _ => 0)))] : va_W) ++ (cc_w C [] G0 ++ ([] : va_W))) := hD
  refine lv_aload_n hx hb dX10_init_13 rfl (lv_at hl 0 rfl) ?_
  refine lv_iconst (v := 0) hx hb dX10_init_14 (by decide) ?_
  refine va_put (D := D) (ci := 10) (v := .int 0) (ty := .int) (C := RX10) (T := TX10) (N := 6) hx hb hts (fun w h => List.mem_cons_of_mem _ (List.mem_append_right _ (h))) tyX10 tyX10_ok nmX10 hown hK hP hD hS 0 rfl rfl 1 (by decide) (hts (.fieldLink RX10 15 "HiddenMoves$Words" "length" "I") (List.mem_cons_of_mem _ (List.mem_append_left _ (List.mem_of_getElem? (i := 5) rfl)))) (fun _ h9 => h9) rfl (by decide +kernel) rfl rfl (Nat.le_of_ble_eq_true rfl) dX10_init_15 (fun H locs hP hD hS => ?_)
  have hP : va_P D vwCl (([(h0, .inr (10, [.ref q1, .int 0, .int 0, .int 0, .int 0, .int 0])), (q1, .inl ((C 2), 4000, .inl (fun _ => 0)))] : va_W) ++ (cc_w C [] G0 ++ ([] : va_W))) H := hP
  have hD : va_D A (([(h0, .inr (10, [.ref q1, .int 0, .int 0, .int 0, .int 0, .int 0])), (q1, .inl ((C 2), 4000, .inl (fun _ => 0)))] : va_W) ++ (cc_w C [] G0 ++ ([] : va_W))) := hD
  refine lv_aload_n hx hb dX10_init_18 rfl (lv_at hl 0 rfl) ?_
  refine lv_iconst (v := 0) hx hb dX10_init_19 (by decide) ?_
  refine va_put (D := D) (ci := 10) (v := .int 0) (ty := .int) (C := RX10) (T := TX10) (N := 6) hx hb hts (fun w h => List.mem_cons_of_mem _ (List.mem_append_right _ (h))) tyX10 tyX10_ok nmX10 hown hK hP hD hS 0 rfl rfl 2 (by decide) (hts (.fieldLink RX10 19 "HiddenMoves$Words" "kind" "I") (List.mem_cons_of_mem _ (List.mem_append_left _ (List.mem_of_getElem? (i := 6) rfl)))) (fun _ h9 => h9) rfl (by decide +kernel) rfl rfl (Nat.le_of_ble_eq_true rfl) dX10_init_20 (fun H locs hP hD hS => ?_)
  have hP : va_P D vwCl (([(h0, .inr (10, [.ref q1, .int 0, .int 0, .int 0, .int 0, .int 0])), (q1, .inl ((C 2), 4000, .inl (fun _ => 0)))] : va_W) ++ (cc_w C [] G0 ++ ([] : va_W))) H := hP
  have hD : va_D A (([(h0, .inr (10, [.ref q1, .int 0, .int 0, .int 0, .int 0, .int 0])), (q1, .inl ((C 2), 4000, .inl (fun _ => 0)))] : va_W) ++ (cc_w C [] G0 ++ ([] : va_W))) := hD
  refine lv_aload_n hx hb dX10_init_23 rfl (lv_at hl 0 rfl) ?_
  refine lv_iconst (v := 0) hx hb dX10_init_24 (by decide) ?_
  refine va_put (D := D) (ci := 10) (v := .int 0) (ty := .int) (C := RX10) (T := TX10) (N := 6) hx hb hts (fun w h => List.mem_cons_of_mem _ (List.mem_append_right _ (h))) tyX10 tyX10_ok nmX10 hown hK hP hD hS 0 rfl rfl 3 (by decide) (hts (.fieldLink RX10 22 "HiddenMoves$Words" "begin" "I") (List.mem_cons_of_mem _ (List.mem_append_left _ (List.mem_of_getElem? (i := 7) rfl)))) (fun _ h9 => h9) rfl (by decide +kernel) rfl rfl (Nat.le_of_ble_eq_true rfl) dX10_init_25 (fun H locs hP hD hS => ?_)
  have hP : va_P D vwCl (([(h0, .inr (10, [.ref q1, .int 0, .int 0, .int 0, .int 0, .int 0])), (q1, .inl ((C 2), 4000, .inl (fun _ => 0)))] : va_W) ++ (cc_w C [] G0 ++ ([] : va_W))) H := hP
  have hD : va_D A (([(h0, .inr (10, [.ref q1, .int 0, .int 0, .int 0, .int 0, .int 0])), (q1, .inl ((C 2), 4000, .inl (fun _ => 0)))] : va_W) ++ (cc_w C [] G0 ++ ([] : va_W))) := hD
  refine lv_aload_n hx hb dX10_init_28 rfl (lv_at hl 0 rfl) ?_
  refine lv_iconst (v := 0) hx hb dX10_init_29 (by decide) ?_
  refine va_put (D := D) (ci := 10) (v := .int 0) (ty := .int) (C := RX10) (T := TX10) (N := 6) hx hb hts (fun w h => List.mem_cons_of_mem _ (List.mem_append_right _ (h))) tyX10 tyX10_ok nmX10 hown hK hP hD hS 0 rfl rfl 4 (by decide) (hts (.fieldLink RX10 25 "HiddenMoves$Words" "value" "I") (List.mem_cons_of_mem _ (List.mem_append_left _ (List.mem_of_getElem? (i := 8) rfl)))) (fun _ h9 => h9) rfl (by decide +kernel) rfl rfl (Nat.le_of_ble_eq_true rfl) dX10_init_30 (fun H locs hP hD hS => ?_)
  have hP : va_P D vwCl (([(h0, .inr (10, [.ref q1, .int 0, .int 0, .int 0, .int 0, .int 0])), (q1, .inl ((C 2), 4000, .inl (fun _ => 0)))] : va_W) ++ (cc_w C [] G0 ++ ([] : va_W))) H := hP
  have hD : va_D A (([(h0, .inr (10, [.ref q1, .int 0, .int 0, .int 0, .int 0, .int 0])), (q1, .inl ((C 2), 4000, .inl (fun _ => 0)))] : va_W) ++ (cc_w C [] G0 ++ ([] : va_W))) := hD
  refine lv_aload_n hx hb dX10_init_33 rfl (lv_at hl 0 rfl) ?_
  refine lv_iconst (v := 0) hx hb dX10_init_34 (by decide) ?_
  refine va_put (D := D) (ci := 10) (v := .int 0) (ty := .int) (C := RX10) (T := TX10) (N := 6) hx hb hts (fun w h => List.mem_cons_of_mem _ (List.mem_append_right _ (h))) tyX10 tyX10_ok nmX10 hown hK hP hD hS 0 rfl rfl 5 (by decide) (hts (.fieldLink RX10 28 "HiddenMoves$Words" "behind" "I") (List.mem_cons_of_mem _ (List.mem_append_left _ (List.mem_of_getElem? (i := 9) rfl)))) (fun _ h9 => h9) rfl (by decide +kernel) rfl rfl (Nat.le_of_ble_eq_true rfl) dX10_init_35 (fun H locs hP hD hS => ?_)
  have hP : va_P D vwCl (([(h0, .inr (10, [.ref q1, .int 0, .int 0, .int 0, .int 0, .int 0])), (q1, .inl ((C 2), 4000, .inl (fun _ => 0)))] : va_W) ++ (cc_w C [] G0 ++ ([] : va_W))) H := hP
  have hD : va_D A (([(h0, .inr (10, [.ref q1, .int 0, .int 0, .int 0, .int 0, .int 0])), (q1, .inl ((C 2), 4000, .inl (fun _ => 0)))] : va_W) ++ (cc_w C [] G0 ++ ([] : va_W))) := hD
  obtain ⟨Lk1, Gk1, hP, hD, xk1, uk1, mk1, kk1, ak1⟩ := cc_absorbArr (X := [(h0, .inr (10, [.ref q1, .int 0, .int 0, .int 0, .int 0, .int 0]))]) (q := q1) (t := 2) (n := 4000) (e := .inl ((C 2), 4000, .inl (fun _ => 0))) (fun _ => 0) rfl hP hD hU0 (h0, 0) (fun i => ⟨fun _ => by decide, fun _ => by decide, fun _ => by decide, fun _ => Or.inl rfl⟩)
  have hP : va_P D vwCl (([(h0, .inr (10, [.ref q1, .int 0, .int 0, .int 0, .int 0, .int 0]))] : va_W) ++ (cc_w C Lk1 Gk1 ++ ([] : va_W))) H := hP
  have hD : va_D A (([(h0, .inr (10, [.ref q1, .int 0, .int 0, .int 0, .int 0, .int 0]))] : va_W) ++ (cc_w C Lk1 Gk1 ++ ([] : va_W))) := hD
  obtain ⟨Gf, hP, hD, nf, eG, xf⟩ := cc_absorb (X := []) (q := h0) (e := .inr (10, [.ref q1, .int 0, .int 0, .int 0, .int 0, .int 0])) (e' := .inr (10, [.ref q1, .int 0, .int 0, .int 0, .int 0, .int 0])) (.inl 10) (fun j => ([0, 0, 0, 0, 0, 0] : List Int).getD j 0) (fun j => ([q1, 0, 0, 0, 0, 0] : List Nat).getD j 0) (fun _ => 0) rfl (fun h => h) hP hD
  have fr : ∀ j : Nat, gr Gf h0 j = (fun j => ([q1, 0, 0, 0, 0, 0] : List Nat).getD j 0) j := fun j => congrFun (congrArg (fun x : cG => x.2.2.1) eG) j
  have fz : ∀ j : Nat, gz Gf h0 j = (fun j => ([0, 0, 0, 0, 0, 0] : List Int).getD j 0) j := fun j => congrFun (congrArg (fun x : cG => x.2.1) eG) j
  have fk : gK Gf h0 = .inl 10 := congrArg (fun x : cG => x.1) eG
  have hR : cc_R (h0 :: Lk1) Gf 10 h0 := ⟨⟨List.mem_cons_self, fk⟩, fun o => cc_U_imp (cc_U_obj uk1 nf xf o fk (fun F f1 fρ hd => True.intro)) (fun b o9 hb => Or.inl hb)⟩
  have mq : q1 ∈ h0 :: Lk1 := List.mem_cons_of_mem _ mk1
  have kq : gK Gf q1 = .inr (.inl (2, 4000)) := (gK_e xf mk1).trans kk1
  have aq : gA Gf q1 = fun _ => 0 := (gA_e xf mk1).trans ak1
  have rq : gr Gf h0 0 = q1 := fr 0
  have nq : cw_n (gK Gf) q1 = 4000 := by unfold cw_n; rw [kq]
  have hT : cl_T (h0 :: Lk1) (gK Gf) (gr Gf) (gz Gf) (gA Gf) h0 := ⟨⟨List.mem_cons_self, fk⟩, by rw [rq]; exact ⟨mq, by rw [nq]; decide, by rw [nq]; exact kq⟩, by rw [rq]; exact nq, by rw [fz 1]; decide, by rw [fz 4]; decide, fun i => by rw [rq, aq]; show (0 : Int) ≤ 0 ∧ (0 : Int) < 65536; decide⟩
  rw [List.nil_append, List.append_nil] at hP hD
  refine W.widen (k := 1) (n := 4000) (by omega) (by omega) ?_
  exact W.vret hx hb hr (fun t ht hW => ⟨⟨(), rfl, trivial, _, _, ⟨hR, hT, fz 1⟩, by rw [ht]; exact hP, va_K.moved hW.alike hK, hD⟩, hS.F ht⟩) hS.2.2 dX10_init_38

set_option maxHeartbeats 4000000 in
set_option maxRecDepth 100000 in
/-- Ratio() -/
theorem n_X4_init (l : Launch) (D : va_G) (C : Nat → ClassId) (h0 sz : Nat) : Met l yX4_init wsX4_init ({ frames := 3, cells := 11, slots := 242, locals := 53 }) (va_Pc [.ref h0] (hm_P D [(h0, .inr (4, [.null, .null, .int 0, .null, .null, .null]))] (cw_t C) sz)) (va_Qv (fun _ : Unit => True) (fun _ t => ∃ (L : List Nat) (G : Nat → cG), (cc_R L G 4 h0 ∧ gz G h0 2 = 0) ∧ hm_B D (va_A [(h0, .inr (4, [.null, .null, .int 0, .null, .null, .null]))] sz) (cc_w C L G) (cw_t C) t) (va_A [(h0, .inr (4, [.null, .null, .int 0, .null, .null, .null]))] sz)) 11 242 (va_A [(h0, .inr (4, [.null, .null, .int 0, .null, .null, .null]))] sz) := by
  refine Met.ofW (cc := cX4_init) (maxL := 1) (ret := none) (by decide) rfl ?_
  intro p e s m args below meth c s₁ B hml hv
  obtain ⟨rfl, hsz, hP, hK, hD0, hE⟩ := hv
  have hx := B.exec
  have hb := B.bytes
  have hr := B.returns
  have hts := atoms_spec (ws := wsX4_init) B.pre
  have hown : s.vm.findClass RX4 = some m.cls := findClass_of_methodNamed B.named
  have hlocks := B.notSynchronized
  have hin : meth.name = "<init>" := (name_of_methodNamed B.named B.method).1
  subst hsz
  have hD := hD0.self (sz := s.heap.size)
  generalize hAe : va_A [(h0, .inr (4, [.null, .null, .int 0, .null, .null, .null]))] s.heap.size = A at hD ⊢
  have hA : ∀ q : Nat, s.heap.size ≤ q → A q := fun q h => by rw [← hAe]; exact Or.inr h
  have hS : va_S A s.heap s.heap [] := va_S.rf
  have hP : va_P D vwCl [(h0, .inr (4, [.null, .null, .int 0, .null, .null, .null]))] s.heap := hP
  have hl := lv_entry ([.ref h0]) (n := 1) (Nat.le_of_ble_eq_true rfl)
  rw [lg_entry_eq]
  generalize (lg_sl ([.ref h0]) ++ List.replicate (1 - (lg_sl ([.ref h0])).length) Slot.unset).toArray = ls at hl ⊢
  have hl : lv_has ls 1 [(0, .ref h0)] := hl
  obtain ⟨G0, -⟩ : ∃ G : Nat → cG, True := ⟨fun _ => (.inl 0, fun _ => 0, fun _ => 0, fun _ => 0), trivial⟩
  have hU0 := cc_U_nil G0
  have hP : va_P D vwCl (([(h0, .inr (4, [.null, .null, .int 0, .null, .null, .null]))] : va_W) ++ (cc_w C [] G0 ++ ([] : va_W))) s.heap := hP
  have hD : va_D A (([(h0, .inr (4, [.null, .null, .int 0, .null, .null, .null]))] : va_W) ++ (cc_w C [] G0 ++ ([] : va_W))) := hD
  refine lv_aload_n hx hb dX4_init_0 rfl (lv_at hl 0 rfl) ?_
  refine W.objInit hx hb hown (hts (.methodLink RX4 3 objectInit) (List.mem_cons_of_mem _ (List.mem_append_left _ (List.mem_append_left _ (List.mem_append_left _ (List.mem_append_left _ (List.mem_of_getElem? (i := 0) rfl))))))) (hts (.instanceMethod objectInit) (List.mem_cons_of_mem _ (List.mem_append_left _ (List.mem_append_left _ (List.mem_append_left _ (List.mem_append_left _ (List.mem_of_getElem? (i := 1) rfl))))))) (hts _ (List.mem_of_getElem? (i := 3) rfl)) rfl (by rw [hml]; exact hl.1) rfl dX4_init_1 (Nat.le_of_ble_eq_true rfl) (Nat.le_of_ble_eq_true rfl) ?_
  refine W.eq (g2 := F0 m 4 ls []) rfl ?_
  refine lv_aload_n hx hb dX4_init_4 rfl (lv_at hl 0 rfl) ?_
  refine va_new (ci := 0) (fs := [.null, .int 0, .int 0]) (C := RX0) (T := TX0) (N := 3) hx hb hts (fun w h => List.mem_cons_of_mem _ (List.mem_append_left _ (List.mem_append_left _ (List.mem_append_right _ (h))))) tyX0 tyX0_ok hown (hts (.classLink RX4 9 RX0) (List.mem_cons_of_mem _ (List.mem_append_left _ (List.mem_append_left _ (List.mem_append_left _ (List.mem_append_left _ (List.mem_of_getElem? (i := 3) rfl))))))) (hts (.instantiable RX0 3) (List.mem_cons_of_mem _ (List.mem_append_left _ (List.mem_append_left _ (List.mem_append_left _ (List.mem_append_left _ (List.mem_of_getElem? (i := 4) rfl))))))) (hts (.initialized RX0) (List.mem_cons_of_mem _ (List.mem_append_left _ (List.mem_append_left _ (List.mem_append_left _ (List.mem_append_left _ (List.mem_of_getElem? (i := 5) rfl))))))) hK hP hD hS hA rfl (fun j hj => by rcases (show j = 0 ∨ j = 1 ∨ j = 2 by omega) with rfl | rfl | rfl <;> rfl) (Nat.le_of_ble_eq_true rfl) (Nat.le_of_ble_eq_true rfl) dX4_init_5 (fun q1 H hP hD hS => ?_)
  have hP := va_P.swap hP
  have hD := va_D.swap hD
  have hP : va_P D vwCl (([(h0, .inr (4, [.null, .null, .int 0, .null, .null, .null])), (q1, .inr (0, [.null, .int 0, .int 0]))] : va_W) ++ (cc_w C [] G0 ++ ([] : va_W))) H := hP
  have hD : va_D A (([(h0, .inr (4, [.null, .null, .int 0, .null, .null, .null])), (q1, .inr (0, [.null, .int 0, .int 0]))] : va_W) ++ (cc_w C [] G0 ++ ([] : va_W))) := hD
  refine W.widen (k := 1) (n := 3) (by omega) (by omega) ?_
  refine lv_dup hx hb dX4_init_8 rfl ?_
  refine lv_bipush (v := (32)) hx hb dX4_init_9 (by decide) ?_
  have hPc := hP.sub (ws' := [(q1, .inr (0, [.null, .int 0, .int 0]))]) [1] rfl
  have hDc := hD.sub (ws' := [(q1, .inr (0, [.null, .int 0, .int 0]))]) [1] (by decide) rfl
  have hFc := va_free (wc := [(q1, .inr (0, [.null, .int 0, .int 0]))]) hD hS hA [1] rfl
  refine va_callv (va_runI (As := [.int 32]) (rest := [.ref q1, .ref h0]) ⟨hx, hb, hml, hown, hts⟩ (n_X0_init_32 l D C q1 _) (cwI 1 hts gX4_init_X0_init rfl rfl rfl (hts (.initialized RX0) (List.mem_cons_of_mem _ (List.mem_append_left _ (List.mem_append_left _ (List.mem_append_left _ (List.mem_append_left _ (List.mem_of_getElem? (i := 5) rfl))))))) (hts (.methodLink RX4 11 yX0_init) (List.mem_cons_of_mem _ (List.mem_append_left _ (List.mem_append_left _ (List.mem_append_left _ (List.mem_append_left _ (List.mem_of_getElem? (i := 15) rfl))))))) (hts (.instanceMethod yX0_init) (List.mem_cons_of_mem _ (List.mem_append_left _ (List.mem_append_left _ (List.mem_append_left _ (List.mem_append_left _ (List.mem_of_getElem? (i := 16) rfl))))))) rfl (by decide +kernel) ⟨Nat.le_of_ble_eq_true rfl, Nat.le_of_ble_eq_true rfl⟩) ⟨hm_blind, hm_pre hPc hK hDc hE⟩ rfl rfl hl.1 rfl (lv_room (Nat.le_of_ble_eq_true rfl)) dX4_init_11 ⟨(Nat.le_of_ble_eq_true rfl), (Nat.le_of_ble_eq_true rfl)⟩) hS (fun q _ h => hFc q h) hFc (fun u t H1 locs ht hvm hw hB hz1 hk1 hS => ?_)
  obtain ⟨q2, hP1, hK1, hD1⟩ := hB
  rw [ht] at hP1
  obtain ⟨hP, hD⟩ := va_joinQ (X := [(h0, .inr (4, [.null, .null, .int 0, .null, .null, .null])), (q1, .inr (0, [.null, .int 0, .int 0]))]) (cx := [(q1, .inr (0, [.null, .int 0, .int 0]))]) (wr := [(h0, .inr (4, [.null, .null, .int 0, .null, .null, .null]))]) (w1 := [(q1, .inr (0, [.ref q2, .int 0, .int 0])), (q2, .inl ((C 0), 32, .inl (fun _ => 0)))]) (pl := (cc_w C [] G0 ++ ([] : va_W))) hP hD [1] [0] rfl rfl (by decide) (by decide) hk1 hFc hP1 hD1
  generalize H1 = H at hP hS ⊢
  have hP : va_P D vwCl (([(h0, .inr (4, [.null, .null, .int 0, .null, .null, .null])), (q1, .inr (0, [.ref q2, .int 0, .int 0])), (q2, .inl ((C 0), 32, .inl (fun _ => 0)))] : va_W) ++ (cc_w C [] G0 ++ ([] : va_W))) H := hP
  have hD : va_D A (([(h0, .inr (4, [.null, .null, .int 0, .null, .null, .null])), (q1, .inr (0, [.ref q2, .int 0, .int 0])), (q2, .inl ((C 0), 32, .inl (fun _ => 0)))] : va_W) ++ (cc_w C [] G0 ++ ([] : va_W))) := hD
  refine W.widen (k := 2) (n := 35) (by omega) (by omega) ?_
  refine va_putF (D := D) (ci := 4) (v := .ref q1) (ty := .object "HiddenMoves$Big") (C := RX4) (T := TX4) (N := 6) hx hb hts (fun w h => List.mem_cons_of_mem _ (List.mem_append_left _ (List.mem_append_right _ (h)))) tyX4 tyX4_ok nmX4 hown hK hP hD hS 0 rfl rfl 0 (by decide) (hts (.fieldLink RX4 14 "HiddenMoves$Ratio" "top" "LHiddenMoves$Big;") (List.mem_cons_of_mem _ (List.mem_append_left _ (List.mem_append_left _ (List.mem_append_left _ (List.mem_append_left _ (List.mem_of_getElem? (i := 6) rfl))))))) (fun _ h9 => h9) rfl hin rfl (by decide +kernel) rfl rfl (Nat.le_of_ble_eq_true rfl) dX4_init_14 (fun H locs hP hD hS => ?_)
  have hP : va_P D vwCl (([(h0, .inr (4, [.ref q1, .null, .int 0, .null, .null, .null])), (q1, .inr (0, [.ref q2, .int 0, .int 0])), (q2, .inl ((C 0), 32, .inl (fun _ => 0)))] : va_W) ++ (cc_w C [] G0 ++ ([] : va_W))) H := hP
  have hD : va_D A (([(h0, .inr (4, [.ref q1, .null, .int 0, .null, .null, .null])), (q1, .inr (0, [.ref q2, .int 0, .int 0])), (q2, .inl ((C 0), 32, .inl (fun _ => 0)))] : va_W) ++ (cc_w C [] G0 ++ ([] : va_W))) := hD
  obtain ⟨Lk1, Gk1, hP, hD, xk1, uk1, bk1⟩ := cc_absorbBig (X := [(h0, .inr (4, [.ref q1, .null, .int 0, .null, .null, .null]))]) (b := q1) (d := q2) (n := 32) hP hD hU0 (by decide) (h0, 0)
  have hP : va_P D vwCl (([(h0, .inr (4, [.ref q1, .null, .int 0, .null, .null, .null]))] : va_W) ++ (cc_w C Lk1 Gk1 ++ ([] : va_W))) H := hP
  have hD : va_D A (([(h0, .inr (4, [.ref q1, .null, .int 0, .null, .null, .null]))] : va_W) ++ (cc_w C Lk1 Gk1 ++ ([] : va_W))) := hD
  refine lv_aload_n hx hb dX4_init_17 rfl (lv_at hl 0 rfl) ?_
  refine va_new (ci := 0) (fs := [.null, .int 0, .int 0]) (C := RX0) (T := TX0) (N := 3) hx hb hts (fun w h => List.mem_cons_of_mem _ (List.mem_append_left _ (List.mem_append_left _ (List.mem_append_right _ (h))))) tyX0 tyX0_ok hown (hts (.classLink RX4 9 RX0) (List.mem_cons_of_mem _ (List.mem_append_left _ (List.mem_append_left _ (List.mem_append_left _ (List.mem_append_left _ (List.mem_of_getElem? (i := 3) rfl))))))) (hts (.instantiable RX0 3) (List.mem_cons_of_mem _ (List.mem_append_left _ (List.mem_append_left _ (List.mem_append_left _ (List.mem_append_left _ (List.mem_of_getElem? (i := 4) rfl))))))) (hts (.initialized RX0) (List.mem_cons_of_mem _ (List.mem_append_left _ (List.mem_append_left _ (List.mem_append_left _ (List.mem_append_left _ (List.mem_of_getElem? (i := 5) rfl))))))) hK hP hD hS hA rfl (fun j hj => by rcases (show j = 0 ∨ j = 1 ∨ j = 2 by omega) with rfl | rfl | rfl <;> rfl) (Nat.le_of_ble_eq_true rfl) (Nat.le_of_ble_eq_true rfl) dX4_init_18 (fun q3 H hP hD hS => ?_)
  have hP := va_P.swap hP
  have hD := va_D.swap hD
  have hP : va_P D vwCl (([(h0, .inr (4, [.ref q1, .null, .int 0, .null, .null, .null])), (q3, .inr (0, [.null, .int 0, .int 0]))] : va_W) ++ (cc_w C Lk1 Gk1 ++ ([] : va_W))) H := hP
  have hD : va_D A (([(h0, .inr (4, [.ref q1, .null, .int 0, .null, .null, .null])), (q3, .inr (0, [.null, .int 0, .int 0]))] : va_W) ++ (cc_w C Lk1 Gk1 ++ ([] : va_W))) := hD
  refine W.widen (k := 3) (n := 38) (by omega) (by omega) ?_
  refine lv_dup hx hb dX4_init_21 rfl ?_
  refine lv_bipush (v := (32)) hx hb dX4_init_22 (by decide) ?_
  have hPc := hP.sub (ws' := [(q3, .inr (0, [.null, .int 0, .int 0]))]) [1] rfl
  have hDc := hD.sub (ws' := [(q3, .inr (0, [.null, .int 0, .int 0]))]) [1] (by decide) rfl
  have hFc := va_free (wc := [(q3, .inr (0, [.null, .int 0, .int 0]))]) hD hS hA [1] rfl
  refine va_callv (va_runI (As := [.int 32]) (rest := [.ref q3, .ref h0]) ⟨hx, hb, hml, hown, hts⟩ (n_X0_init_32 l D C q3 _) (cwI 1 hts gX4_init_X0_init rfl rfl rfl (hts (.initialized RX0) (List.mem_cons_of_mem _ (List.mem_append_left _ (List.mem_append_left _ (List.mem_append_left _ (List.mem_append_left _ (List.mem_of_getElem? (i := 5) rfl))))))) (hts (.methodLink RX4 11 yX0_init) (List.mem_cons_of_mem _ (List.mem_append_left _ (List.mem_append_left _ (List.mem_append_left _ (List.mem_append_left _ (List.mem_of_getElem? (i := 15) rfl))))))) (hts (.instanceMethod yX0_init) (List.mem_cons_of_mem _ (List.mem_append_left _ (List.mem_append_left _ (List.mem_append_left _ (List.mem_append_left _ (List.mem_of_getElem? (i := 16) rfl))))))) rfl (by decide +kernel) ⟨Nat.le_of_ble_eq_true rfl, Nat.le_of_ble_eq_true rfl⟩) ⟨hm_blind, hm_pre hPc hK hDc hE⟩ rfl rfl hl.1 rfl (lv_room (Nat.le_of_ble_eq_true rfl)) dX4_init_24 ⟨(Nat.le_of_ble_eq_true rfl), (Nat.le_of_ble_eq_true rfl)⟩) hS (fun q _ h => hFc q h) hFc (fun u t H1 locs ht hvm hw hB hz1 hk1 hS => ?_)
  obtain ⟨q4, hP1, hK1, hD1⟩ := hB
  rw [ht] at hP1
  obtain ⟨hP, hD⟩ := va_joinQ (X := [(h0, .inr (4, [.ref q1, .null, .int 0, .null, .null, .null])), (q3, .inr (0, [.null, .int 0, .int 0]))]) (cx := [(q3, .inr (0, [.null, .int 0, .int 0]))]) (wr := [(h0, .inr (4, [.ref q1, .null, .int 0, .null, .null, .null]))]) (w1 := [(q3, .inr (0, [.ref q4, .int 0, .int 0])), (q4, .inl ((C 0), 32, .inl (fun _ => 0)))]) (pl := (cc_w C Lk1 Gk1 ++ ([] : va_W))) hP hD [1] [0] rfl rfl (by decide) (by decide) hk1 hFc hP1 hD1
  generalize H1 = H at hP hS ⊢
  have hP : va_P D vwCl (([(h0, .inr (4, [.ref q1, .null, .int 0, .null, .null, .null])), (q3, .inr (0, [.ref q4, .int 0, .int 0])), (q4, .inl ((C 0), 32, .inl (fun _ => 0)))] : va_W) ++ (cc_w C Lk1 Gk1 ++ ([] : va_W))) H := hP
  have hD : va_D A (([(h0, .inr (4, [.ref q1, .null, .int 0, .null, .null, .null])), (q3, .inr (0, [.ref q4, .int 0, .int 0])), (q4, .inl ((C 0), 32, .inl (fun _ => 0)))] : va_W) ++ (cc_w C Lk1 Gk1 ++ ([] : va_W))) := hD
  refine W.widen (k := 4) (n := 70) (by omega) (by omega) ?_
  refine va_putF (D := D) (ci := 4) (v := .ref q3) (ty := .object "HiddenMoves$Big") (C := RX4) (T := TX4) (N := 6) hx hb hts (fun w h => List.mem_cons_of_mem _ (List.mem_append_left _ (List.mem_append_right _ (h)))) tyX4 tyX4_ok nmX4 hown hK hP hD hS 0 rfl rfl 1 (by decide) (hts (.fieldLink RX4 20 "HiddenMoves$Ratio" "bottom" "LHiddenMoves$Big;") (List.mem_cons_of_mem _ (List.mem_append_left _ (List.mem_append_left _ (List.mem_append_left _ (List.mem_append_left _ (List.mem_of_getElem? (i := 7) rfl))))))) (fun _ h9 => h9) rfl hin rfl (by decide +kernel) rfl rfl (Nat.le_of_ble_eq_true rfl) dX4_init_27 (fun H locs hP hD hS => ?_)
  have hP : va_P D vwCl (([(h0, .inr (4, [.ref q1, .ref q3, .int 0, .null, .null, .null])), (q3, .inr (0, [.ref q4, .int 0, .int 0])), (q4, .inl ((C 0), 32, .inl (fun _ => 0)))] : va_W) ++ (cc_w C Lk1 Gk1 ++ ([] : va_W))) H := hP
  have hD : va_D A (([(h0, .inr (4, [.ref q1, .ref q3, .int 0, .null, .null, .null])), (q3, .inr (0, [.ref q4, .int 0, .int 0])), (q4, .inl ((C 0), 32, .inl (fun _ => 0)))] : va_W) ++ (cc_w C Lk1 Gk1 ++ ([] : va_W))) := hD
  obtain ⟨Lk2, Gk2, hP, hD, xk2, uk2, bk2⟩ := cc_absorbBig (X := [(h0, .inr (4, [.ref q1, .ref q3, .int 0, .null, .null, .null]))]) (b := q3) (d := q4) (n := 32) hP hD uk1 (by decide) (h0, 1)
  have hP : va_P D vwCl (([(h0, .inr (4, [.ref q1, .ref q3, .int 0, .null, .null, .null]))] : va_W) ++ (cc_w C Lk2 Gk2 ++ ([] : va_W))) H := hP
  have hD : va_D A (([(h0, .inr (4, [.ref q1, .ref q3, .int 0, .null, .null, .null]))] : va_W) ++ (cc_w C Lk2 Gk2 ++ ([] : va_W))) := hD
  refine lv_aload_n hx hb dX4_init_30 rfl (lv_at hl 0 rfl) ?_
  refine lv_iconst (v := 0) hx hb dX4_init_31 (by decide) ?_
  refine va_put (D := D) (ci := 4) (v := .int 0) (ty := .boolean) (C := RX4) (T := TX4) (N := 6) hx hb hts (fun w h => List.mem_cons_of_mem _ (List.mem_append_left _ (List.mem_append_right _ (h)))) tyX4 tyX4_ok nmX4 hown hK hP hD hS 0 rfl rfl 2 (by decide) (hts (.fieldLink RX4 23 "HiddenMoves$Ratio" "known" "Z") (List.mem_cons_of_mem _ (List.mem_append_left _ (List.mem_append_left _ (List.mem_append_left _ (List.mem_append_left _ (List.mem_of_getElem? (i := 8) rfl))))))) (fun _ h9 => h9) rfl (by decide +kernel) rfl rfl (Nat.le_of_ble_eq_true rfl) dX4_init_32 (fun H locs hP hD hS => ?_)
  have hP : va_P D vwCl (([(h0, .inr (4, [.ref q1, .ref q3, .int 0, .null, .null, .null]))] : va_W) ++ (cc_w C Lk2 Gk2 ++ ([] : va_W))) H := hP
  have hD : va_D A (([(h0, .inr (4, [.ref q1, .ref q3, .int 0, .null, .null, .null]))] : va_W) ++ (cc_w C Lk2 Gk2 ++ ([] : va_W))) := hD
  refine lv_aload_n hx hb dX4_init_35 rfl (lv_at hl 0 rfl) ?_
  refine va_new (ci := 0) (fs := [.null, .int 0, .int 0]) (C := RX0) (T := TX0) (N := 3) hx hb hts (fun w h => List.mem_cons_of_mem _ (List.mem_append_left _ (List.mem_append_left _ (List.mem_append_right _ (h))))) tyX0 tyX0_ok hown (hts (.classLink RX4 9 RX0) (List.mem_cons_of_mem _ (List.mem_append_left _ (List.mem_append_left _ (List.mem_append_left _ (List.mem_append_left _ (List.mem_of_getElem? (i := 3) rfl))))))) (hts (.instantiable RX0 3) (List.mem_cons_of_mem _ (List.mem_append_left _ (List.mem_append_left _ (List.mem_append_left _ (List.mem_append_left _ (List.mem_of_getElem? (i := 4) rfl))))))) (hts (.initialized RX0) (List.mem_cons_of_mem _ (List.mem_append_left _ (List.mem_append_left _ (List.mem_append_left _ (List.mem_append_left _ (List.mem_of_getElem? (i := 5) rfl))))))) hK hP hD hS hA rfl (fun j hj => by rcases (show j = 0 ∨ j = 1 ∨ j = 2 by omega) with rfl | rfl | rfl <;> rfl) (Nat.le_of_ble_eq_true rfl) (Nat.le_of_ble_eq_true rfl) dX4_init_36 (fun q5 H hP hD hS => ?_)
  have hP := va_P.swap hP
  have hD := va_D.swap hD
  have hP : va_P D vwCl (([(h0, .inr (4, [.ref q1, .ref q3, .int 0, .null, .null, .null])), (q5, .inr (0, [.null, .int 0, .int 0]))] : va_W) ++ (cc_w C Lk2 Gk2 ++ ([] : va_W))) H := hP
  have hD : va_D A (([(h0, .inr (4, [.ref q1, .ref q3, .int 0, .null, .null, .null])), (q5, .inr (0, [.null, .int 0, .int 0]))] : va_W) ++ (cc_w C Lk2 Gk2 ++ ([] : va_W))) := hD
  refine W.widen (k := 5) (n := 73) (by omega) (by omega) ?_
  refine lv_dup hx hb dX4_init_39 rfl ?_
  refine lv_bipush (v := (64)) hx hb dX4_init_40 (by decide) ?_
  have hPc := hP.sub (ws' := [(q5, .inr (0, [.null, .int 0, .int 0]))]) [1] rfl
  have hDc := hD.sub (ws' := [(q5, .inr (0, [.null, .int 0, .int 0]))]) [1] (by decide) rfl
  have hFc := va_free (wc := [(q5, .inr (0, [.null, .int 0, .int 0]))]) hD hS hA [1] rfl
  refine va_callv (va_runI (As := [.int 64]) (rest := [.ref q5, .ref h0]) ⟨hx, hb, hml, hown, hts⟩ (n_X0_init_64 l D C q5 _) (cwI 1 hts gX4_init_X0_init rfl rfl rfl (hts (.initialized RX0) (List.mem_cons_of_mem _ (List.mem_append_left _ (List.mem_append_left _ (List.mem_append_left _ (List.mem_append_left _ (List.mem_of_getElem? (i := 5) rfl))))))) (hts (.methodLink RX4 11 yX0_init) (List.mem_cons_of_mem _ (List.mem_append_left _ (List.mem_append_left _ (List.mem_append_left _ (List.mem_append_left _ (List.mem_of_getElem? (i := 15) rfl))))))) (hts (.instanceMethod yX0_init) (List.mem_cons_of_mem _ (List.mem_append_left _ (List.mem_append_left _ (List.mem_append_left _ (List.mem_append_left _ (List.mem_of_getElem? (i := 16) rfl))))))) rfl (by decide +kernel) ⟨Nat.le_of_ble_eq_true rfl, Nat.le_of_ble_eq_true rfl⟩) ⟨hm_blind, hm_pre hPc hK hDc hE⟩ rfl rfl hl.1 rfl (lv_room (Nat.le_of_ble_eq_true rfl)) dX4_init_42 ⟨(Nat.le_of_ble_eq_true rfl), (Nat.le_of_ble_eq_true rfl)⟩) hS (fun q _ h => hFc q h) hFc (fun u t H1 locs ht hvm hw hB hz1 hk1 hS => ?_)
  obtain ⟨q6, hP1, hK1, hD1⟩ := hB
  rw [ht] at hP1
  obtain ⟨hP, hD⟩ := va_joinQ (X := [(h0, .inr (4, [.ref q1, .ref q3, .int 0, .null, .null, .null])), (q5, .inr (0, [.null, .int 0, .int 0]))]) (cx := [(q5, .inr (0, [.null, .int 0, .int 0]))]) (wr := [(h0, .inr (4, [.ref q1, .ref q3, .int 0, .null, .null, .null]))]) (w1 := [(q5, .inr (0, [.ref q6, .int 0, .int 0])), (q6, .inl ((C 0), 64, .inl (fun _ => 0)))]) (pl := (cc_w C Lk2 Gk2 ++ ([] : va_W))) hP hD [1] [0] rfl rfl (by decide) (by decide) hk1 hFc hP1 hD1
  generalize H1 = H at hP hS ⊢
  have hP : va_P D vwCl (([(h0, .inr (4, [.ref q1, .ref q3, .int 0, .null, .null, .null])), (q5, .inr (0, [.ref q6, .int 0, .int 0])), (q6, .inl ((C 0), 64, .inl (fun _ => 0)))] : va_W) ++ (cc_w C Lk2 Gk2 ++ ([] : va_W))) H := hP
  have hD : va_D A (([(h0, .inr (4, [.ref q1, .ref q3, .int 0, .null, .null, .null])), (q5, .inr (0, [.ref q6, .int 0, .int 0])), (q6, .inl ((C 0), 64, .inl (fun _ => 0)))] : va_W) ++ (cc_w C Lk2 Gk2 ++ ([] : va_W))) := hD
  refine W.widen (k := 6) (n := 137) (by omega) (by omega) ?_
  refine va_putF (D := D) (ci := 4) (v := .ref q5) (ty := .object "HiddenMoves$Big") (C := RX4) (T := TX4) (N := 6) hx hb hts (fun w h => List.mem_cons_of_mem _ (List.mem_append_left _ (List.mem_append_right _ (h)))) tyX4 tyX4_ok nmX4 hown hK hP hD hS 0 rfl rfl 3 (by decide) (hts (.fieldLink RX4 27 "HiddenMoves$Ratio" "first" "LHiddenMoves$Big;") (List.mem_cons_of_mem _ (List.mem_append_left _ (List.mem_append_left _ (List.mem_append_left _ (List.mem_append_left _ (List.mem_of_getElem? (i := 9) rfl))))))) (fun _ h9 => h9) rfl hin rfl (by decide +kernel) rfl rfl (Nat.le_of_ble_eq_true rfl) dX4_init_45 (fun H locs hP hD hS => ?_)
  have hP : va_P D vwCl (([(h0, .inr (4, [.ref q1, .ref q3, .int 0, .ref q5, .null, .null])), (q5, .inr (0, [.ref q6, .int 0, .int 0])), (q6, .inl ((C 0), 64, .inl (fun _ => 0)))] : va_W) ++ (cc_w C Lk2 Gk2 ++ ([] : va_W))) H := hP
  have hD : va_D A (([(h0, .inr (4, [.ref q1, .ref q3, .int 0, .ref q5, .null, .null])), (q5, .inr (0, [.ref q6, .int 0, .int 0])), (q6, .inl ((C 0), 64, .inl (fun _ => 0)))] : va_W) ++ (cc_w C Lk2 Gk2 ++ ([] : va_W))) := hD
  obtain ⟨Lk3, Gk3, hP, hD, xk3, uk3, bk3⟩ := cc_absorbBig (X := [(h0, .inr (4, [.ref q1, .ref q3, .int 0, .ref q5, .null, .null]))]) (b := q5) (d := q6) (n := 64) hP hD uk2 (by decide) (h0, 3)
  have hP : va_P D vwCl (([(h0, .inr (4, [.ref q1, .ref q3, .int 0, .ref q5, .null, .null]))] : va_W) ++ (cc_w C Lk3 Gk3 ++ ([] : va_W))) H := hP
  have hD : va_D A (([(h0, .inr (4, [.ref q1, .ref q3, .int 0, .ref q5, .null, .null]))] : va_W) ++ (cc_w C Lk3 Gk3 ++ ([] : va_W))) := hD
  refine lv_aload_n hx hb dX4_init_48 rfl (lv_at hl 0 rfl) ?_
  refine va_new (ci := 0) (fs := [.null, .int 0, .int 0]) (C := RX0) (T := TX0) (N := 3) hx hb hts (fun w h => List.mem_cons_of_mem _ (List.mem_append_left _ (List.mem_append_left _ (List.mem_append_right _ (h))))) tyX0 tyX0_ok hown (hts (.classLink RX4 9 RX0) (List.mem_cons_of_mem _ (List.mem_append_left _ (List.mem_append_left _ (List.mem_append_left _ (List.mem_append_left _ (List.mem_of_getElem? (i := 3) rfl))))))) (hts (.instantiable RX0 3) (List.mem_cons_of_mem _ (List.mem_append_left _ (List.mem_append_left _ (List.mem_append_left _ (List.mem_append_left _ (List.mem_of_getElem? (i := 4) rfl))))))) (hts (.initialized RX0) (List.mem_cons_of_mem _ (List.mem_append_left _ (List.mem_append_left _ (List.mem_append_left _ (List.mem_append_left _ (List.mem_of_getElem? (i := 5) rfl))))))) hK hP hD hS hA rfl (fun j hj => by rcases (show j = 0 ∨ j = 1 ∨ j = 2 by omega) with rfl | rfl | rfl <;> rfl) (Nat.le_of_ble_eq_true rfl) (Nat.le_of_ble_eq_true rfl) dX4_init_49 (fun q7 H hP hD hS => ?_)
  have hP := va_P.swap hP
  have hD := va_D.swap hD
  have hP : va_P D vwCl (([(h0, .inr (4, [.ref q1, .ref q3, .int 0, .ref q5, .null, .null])), (q7, .inr (0, [.null, .int 0, .int 0]))] : va_W) ++ (cc_w C Lk3 Gk3 ++ ([] : va_W))) H := hP
  have hD : va_D A (([(h0, .inr (4, [.ref q1, .ref q3, .int 0, .ref q5, .null, .null])), (q7, .inr (0, [.null, .int 0, .int 0]))] : va_W) ++ (cc_w C Lk3 Gk3 ++ ([] : va_W))) := hD
  refine W.widen (k := 7) (n := 140) (by omega) (by omega) ?_
  refine lv_dup hx hb dX4_init_52 rfl ?_
  refine lv_bipush (v := (64)) hx hb dX4_init_53 (by decide) ?_
  have hPc := hP.sub (ws' := [(q7, .inr (0, [.null, .int 0, .int 0]))]) [1] rfl
  have hDc := hD.sub (ws' := [(q7, .inr (0, [.null, .int 0, .int 0]))]) [1] (by decide) rfl
  have hFc := va_free (wc := [(q7, .inr (0, [.null, .int 0, .int 0]))]) hD hS hA [1] rfl
  refine va_callv (va_runI (As := [.int 64]) (rest := [.ref q7, .ref h0]) ⟨hx, hb, hml, hown, hts⟩ (n_X0_init_64 l D C q7 _) (cwI 1 hts gX4_init_X0_init rfl rfl rfl (hts (.initialized RX0) (List.mem_cons_of_mem _ (List.mem_append_left _ (List.mem_append_left _ (List.mem_append_left _ (List.mem_append_left _ (List.mem_of_getElem? (i := 5) rfl))))))) (hts (.methodLink RX4 11 yX0_init) (List.mem_cons_of_mem _ (List.mem_append_left _ (List.mem_append_left _ (List.mem_append_left _ (List.mem_append_left _ (List.mem_of_getElem? (i := 15) rfl))))))) (hts (.instanceMethod yX0_init) (List.mem_cons_of_mem _ (List.mem_append_left _ (List.mem_append_left _ (List.mem_append_left _ (List.mem_append_left _ (List.mem_of_getElem? (i := 16) rfl))))))) rfl (by decide +kernel) ⟨Nat.le_of_ble_eq_true rfl, Nat.le_of_ble_eq_true rfl⟩) ⟨hm_blind, hm_pre hPc hK hDc hE⟩ rfl rfl hl.1 rfl (lv_room (Nat.le_of_ble_eq_true rfl)) dX4_init_55 ⟨(Nat.le_of_ble_eq_true rfl), (Nat.le_of_ble_eq_true rfl)⟩) hS (fun q _ h => hFc q h) hFc (fun u t H1 locs ht hvm hw hB hz1 hk1 hS => ?_)
  obtain ⟨q8, hP1, hK1, hD1⟩ := hB
  rw [ht] at hP1
  obtain ⟨hP, hD⟩ := va_joinQ (X := [(h0, .inr (4, [.ref q1, .ref q3, .int 0, .ref q5, .null, .null])), (q7, .inr (0, [.null, .int 0, .int 0]))]) (cx := [(q7, .inr (0, [.null, .int 0, .int 0]))]) (wr := [(h0, .inr (4, [.ref q1, .ref q3, .int 0, .ref q5, .null, .null]))]) (w1 := [(q7, .inr (0, [.ref q8, .int 0, .int 0])), (q8, .inl ((C 0), 64, .inl (fun _ => 0)))]) (pl := (cc_w C Lk3 Gk3 ++ ([] : va_W))) hP hD [1] [0] rfl rfl (by decide) (by decide) hk1 hFc hP1 hD1
  generalize H1 = H at hP hS ⊢
  have hP : va_P D vwCl (([(h0, .inr (4, [.ref q1, .ref q3, .int 0, .ref q5, .null, .null])), (q7, .inr (0, [.ref q8, .int 0, .int 0])), (q8, .inl ((C 0), 64, .inl (fun _ => 0)))] : va_W) ++ (cc_w C Lk3 Gk3 ++ ([] : va_W))) H := hP
  have hD : va_D A (([(h0, .inr (4, [.ref q1, .ref q3, .int 0, .ref q5, .null, .null])), (q7, .inr (0, [.ref q8, .int 0, .int 0])), (q8, .inl ((C 0), 64, .inl (fun _ => 0)))] : va_W) ++ (cc_w C Lk3 Gk3 ++ ([] : va_W))) := hD
  refine W.widen (k := 8) (n := 204) (by omega) (by omega) ?_
  refine va_putF (D := D) (ci := 4) (v := .ref q7) (ty := .object "HiddenMoves$Big") (C := RX4) (T := TX4) (N := 6) hx hb hts (fun w h => List.mem_cons_of_mem _ (List.mem_append_left _ (List.mem_append_right _ (h)))) tyX4 tyX4_ok nmX4 hown hK hP hD hS 0 rfl rfl 4 (by decide) (hts (.fieldLink RX4 30 "HiddenMoves$Ratio" "second" "LHiddenMoves$Big;") (List.mem_cons_of_mem _ (List.mem_append_left _ (List.mem_append_left _ (List.mem_append_left _ (List.mem_append_left _ (List.mem_of_getElem? (i := 10) rfl))))))) (fun _ h9 => h9) rfl hin rfl (by decide +kernel) rfl rfl (Nat.le_of_ble_eq_true rfl) dX4_init_58 (fun H locs hP hD hS => ?_)
  have hP : va_P D vwCl (([(h0, .inr (4, [.ref q1, .ref q3, .int 0, .ref q5, .ref q7, .null])), (q7, .inr (0, [.ref q8, .int 0, .int 0])), (q8, .inl ((C 0), 64, .inl (fun _ => 0)))] : va_W) ++ (cc_w C Lk3 Gk3 ++ ([] : va_W))) H := hP
  have hD : va_D A (([(h0, .inr (4, [.ref q1, .ref q3, .int 0, .ref q5, .ref q7, .null])), (q7, .inr (0, [.ref q8, .int 0, .int 0])), (q8, .inl ((C 0), 64, .inl (fun _ => 0)))] : va_W) ++ (cc_w C Lk3 Gk3 ++ ([] : va_W))) := hD
  obtain ⟨Lk4, Gk4, hP, hD, xk4, uk4, bk4⟩ := cc_absorbBig (X := [(h0, .inr (4, [.ref q1, .ref q3, .int 0, .ref q5, .ref q7, .null]))]) (b := q7) (d := q8) (n := 64) hP hD uk3 (by decide) (h0, 4)
  have hP : va_P D vwCl (([(h0, .inr (4, [.ref q1, .ref q3, .int 0, .ref q5, .ref q7, .null]))] : va_W) ++ (cc_w C Lk4 Gk4 ++ ([] : va_W))) H := hP
  have hD : va_D A (([(h0, .inr (4, [.ref q1, .ref q3, .int 0, .ref q5, .ref q7, .null]))] : va_W) ++ (cc_w C Lk4 Gk4 ++ ([] : va_W))) := hD
  refine lv_aload_n hx hb dX4_init_61 rfl (lv_at hl 0 rfl) ?_
  refine va_new (ci := 1) (fs := [.null, .int 0, .int 0]) (C := RX1) (T := TX1) (N := 3) hx hb hts (fun w h => List.mem_cons_of_mem _ (List.mem_append_right _ (h))) tyX1 tyX1_ok hown (hts (.classLink RX4 33 RX1) (List.mem_cons_of_mem _ (List.mem_append_left _ (List.mem_append_left _ (List.mem_append_left _ (List.mem_append_left _ (List.mem_of_getElem? (i := 11) rfl))))))) (hts (.instantiable RX1 3) (List.mem_cons_of_mem _ (List.mem_append_left _ (List.mem_append_left _ (List.mem_append_left _ (List.mem_append_left _ (List.mem_of_getElem? (i := 12) rfl))))))) (hts (.initialized RX1) (List.mem_cons_of_mem _ (List.mem_append_left _ (List.mem_append_left _ (List.mem_append_left _ (List.mem_append_left _ (List.mem_of_getElem? (i := 13) rfl))))))) hK hP hD hS hA rfl (fun j hj => by rcases (show j = 0 ∨ j = 1 ∨ j = 2 by omega) with rfl | rfl | rfl <;> rfl) (Nat.le_of_ble_eq_true rfl) (Nat.le_of_ble_eq_true rfl) dX4_init_62 (fun q9 H hP hD hS => ?_)
  have hP := va_P.swap hP
  have hD := va_D.swap hD
  have hP : va_P D vwCl (([(h0, .inr (4, [.ref q1, .ref q3, .int 0, .ref q5, .ref q7, .null])), (q9, .inr (1, [.null, .int 0, .int 0]))] : va_W) ++ (cc_w C Lk4 Gk4 ++ ([] : va_W))) H := hP
  have hD : va_D A (([(h0, .inr (4, [.ref q1, .ref q3, .int 0, .ref q5, .ref q7, .null])), (q9, .inr (1, [.null, .int 0, .int 0]))] : va_W) ++ (cc_w C Lk4 Gk4 ++ ([] : va_W))) := hD
  refine W.widen (k := 9) (n := 207) (by omega) (by omega) ?_
  refine lv_dup hx hb dX4_init_65 rfl ?_
  have hPc := hP.sub (ws' := [(q9, .inr (1, [.null, .int 0, .int 0]))]) [1] rfl
  have hDc := hD.sub (ws' := [(q9, .inr (1, [.null, .int 0, .int 0]))]) [1] (by decide) rfl
  have hFc := va_free (wc := [(q9, .inr (1, [.null, .int 0, .int 0]))]) hD hS hA [1] rfl
  refine va_callv (va_runIN (As := []) (rest := [.ref q9, .ref h0]) ⟨hx, hb, hml, hown, hts⟩ (n_X1_init l D C q9 _) ⟨va_cnB 0 hts gX4_init_X1_init_n35 rfl rfl rfl (hE.nest_RX4_35) (hts (.initialized RX1) (List.mem_cons_of_mem _ (List.mem_append_left _ (List.mem_append_left _ (List.mem_append_left _ (List.mem_append_left _ (List.mem_of_getElem? (i := 13) rfl))))))) (by decide +kernel) ⟨Nat.le_of_ble_eq_true rfl, Nat.le_of_ble_eq_true rfl⟩, rfl, (hts (.instanceMethod yX1_init) (List.mem_cons_of_mem _ (List.mem_append_left _ (List.mem_append_left _ (List.mem_append_left _ (List.mem_append_left _ (List.mem_of_getElem? (i := 23) rfl)))))))⟩ ⟨hm_blind, hm_pre hPc hK hDc hE⟩ rfl rfl hl.1 rfl (lv_room (Nat.le_of_ble_eq_true rfl)) dX4_init_66 ⟨(Nat.le_of_ble_eq_true rfl), (Nat.le_of_ble_eq_true rfl)⟩) hS (fun q _ h => hFc q h) hFc (fun u t H1 locs ht hvm hw hB hz1 hk1 hS => ?_)
  obtain ⟨Lp10, Gp10, hR10, hP1, hK1, hD1⟩ := hB
  rw [ht] at hP1
  obtain ⟨hP, hD⟩ := va_joinQ (X := [(h0, .inr (4, [.ref q1, .ref q3, .int 0, .ref q5, .ref q7, .null])), (q9, .inr (1, [.null, .int 0, .int 0]))]) (cx := [(q9, .inr (1, [.null, .int 0, .int 0]))]) (wr := [(h0, .inr (4, [.ref q1, .ref q3, .int 0, .ref q5, .ref q7, .null]))]) (w1 := cc_w C Lp10 Gp10) (pl := (cc_w C Lk4 Gk4 ++ ([] : va_W))) hP hD [1] [0] rfl rfl (by decide) (by decide) hk1 hFc hP1 hD1
  generalize H1 = H at hP hS ⊢
  obtain ⟨Lk5, Gk5, hP, hD, xk5, uk5, ok5, pk5⟩ := cc_joinW (X := [(h0, .inr (4, [.ref q1, .ref q3, .int 0, .ref q5, .ref q7, .null]))]) hP hD uk4 hR10 (h0, 5)
  have hP : va_P D vwCl (([(h0, .inr (4, [.ref q1, .ref q3, .int 0, .ref q5, .ref q7, .null]))] : va_W) ++ (cc_w C Lk5 Gk5 ++ ([] : va_W))) H := hP
  have hD : va_D A (([(h0, .inr (4, [.ref q1, .ref q3, .int 0, .ref q5, .ref q7, .null]))] : va_W) ++ (cc_w C Lk5 Gk5 ++ ([] : va_W))) := hD
  refine W.widen (k := 11) (n := 242) (by omega) (by omega) ?_
  refine va_putF (D := D) (ci := 4) (v := .ref q9) (ty := .object "HiddenMoves$Divider") (C := RX4) (T := TX4) (N := 6) hx hb hts (fun w h => List.mem_cons_of_mem _ (List.mem_append_left _ (List.mem_append_right _ (h)))) tyX4 tyX4_ok nmX4 hown hK hP hD hS 0 rfl rfl 5 (by decide) (hts (.fieldLink RX4 36 "HiddenMoves$Ratio" "divider" "LHiddenMoves$Divider;") (List.mem_cons_of_mem _ (List.mem_append_left _ (List.mem_append_left _ (List.mem_append_left _ (List.mem_append_left _ (List.mem_of_getElem? (i := 14) rfl))))))) (fun _ h9 => h9) rfl hin rfl (by decide +kernel) rfl rfl (Nat.le_of_ble_eq_true rfl) dX4_init_69 (fun H locs hP hD hS => ?_)
  have hP : va_P D vwCl (([(h0, .inr (4, [.ref q1, .ref q3, .int 0, .ref q5, .ref q7, .ref q9]))] : va_W) ++ (cc_w C Lk5 Gk5 ++ ([] : va_W))) H := hP
  have hD : va_D A (([(h0, .inr (4, [.ref q1, .ref q3, .int 0, .ref q5, .ref q7, .ref q9]))] : va_W) ++ (cc_w C Lk5 Gk5 ++ ([] : va_W))) := hD
  obtain ⟨Gf, hP, hD, nf, eG, xf⟩ := cc_absorb (X := []) (q := h0) (e := .inr (4, [.ref q1, .ref q3, .int 0, .ref q5, .ref q7, .ref q9])) (e' := .inr (4, [.ref q1, .ref q3, .int 0, .ref q5, .ref q7, .ref q9])) (.inl 4) (fun j => ([0, 0, 0, 0, 0, 0] : List Int).getD j 0) (fun j => ([q1, q3, 0, q5, q7, q9] : List Nat).getD j 0) (fun _ => 0) rfl (fun h => h) hP hD
  have fr : ∀ j : Nat, gr Gf h0 j = (fun j => ([q1, q3, 0, q5, q7, q9] : List Nat).getD j 0) j := fun j => congrFun (congrArg (fun x : cG => x.2.2.1) eG) j
  have fz : ∀ j : Nat, gz Gf h0 j = (fun j => ([0, 0, 0, 0, 0, 0] : List Int).getD j 0) j := fun j => congrFun (congrArg (fun x : cG => x.2.1) eG) j
  have fk : gK Gf h0 = .inl 4 := congrArg (fun x : cG => x.1) eG
  have hR : cc_R (h0 :: Lk5) Gf 4 h0 := ⟨⟨List.mem_cons_self, fk⟩, fun o => cc_U_imp (cc_U_obj uk5 nf xf o fk (fun F f1 fρ hd => ⟨cl_B xf (fr 0) (cx_B (cx_t xk2 (cx_t xk3 (cx_t xk4 xk5))) bk1) (f1 _ _ (Or.inr (Or.inr (Or.inr (Or.inr (Or.inl ⟨rfl, rfl⟩)))))).2 fρ, cl_B xf (fr 1) (cx_B (cx_t xk3 (cx_t xk4 xk5)) bk2) (f1 _ _ (Or.inr (Or.inr (Or.inr (Or.inl ⟨rfl, rfl⟩))))).2 fρ, cl_B xf (fr 3) (cx_B (cx_t xk4 xk5) bk3) (f1 _ _ (Or.inr (Or.inr (Or.inl ⟨rfl, rfl⟩)))).2 fρ, cl_B xf (fr 4) (cx_B xk5 bk4) (f1 _ _ (Or.inr (Or.inl ⟨rfl, rfl⟩))).2 fρ, cl_O xf (fr 5) ok5 (f1 _ _ (Or.inl ⟨rfl, rfl⟩)).2 fρ⟩)) (fun b o9 hb => Or.inl hb)⟩
  rw [List.nil_append, List.append_nil] at hP hD
  refine W.widen (k := 11) (n := 242) (by omega) (by omega) ?_
  exact W.vret hx hb hr (fun t ht hW => ⟨⟨(), rfl, trivial, _, _, ⟨hR, fz 2⟩, by rw [ht]; exact hP, va_K.moved hW.alike hK, hD⟩, hS.F ht⟩) hS.2.2 dX4_init_72
