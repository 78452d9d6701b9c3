set_option maxHeartbeats 4000000 in
set_option maxRecDepth 100000 in
/-- Way() -/
theorem n_X9_init (l : Launch) (D : va_G) (C : Nat → ClassId) (h0 sz : Nat) : Met l yX9_init wsX9_init ({ frames := 1, cells := 3, slots := 90, locals := 12 }) (va_Pc [.ref h0] (hm_P D [(h0, .inr (9, [.null, .null, .null]))] (cw_t C) sz)) (va_Qv (fun _ : Unit => True) (fun _ t => ∃ (L : List Nat) (G : Nat → cG), (cc_R L G 9 h0 ∧ cy_W L (gK G) (gr G) (gA G) h0 ∧ gr G h0 0 ∈ L ∧ gr G h0 1 ∈ L) ∧ hm_B D (va_A [(h0, .inr (9, [.null, .null, .null]))] sz) (cc_w C L G) (cw_t C) t) (va_A [(h0, .inr (9, [.null, .null, .null]))] sz)) 3 90 (va_A [(h0, .inr (9, [.null, .null, .null]))] sz) := by
  refine Met.ofW (cc := cX9_init) (maxL := 2) (ret := none) (by decide) rfl ?_
  intro p e s m args below meth c s₁ B hml hv
  obtain ⟨rfl, hsz, hP, hK, hD0, hE⟩ := hv
  have hx := B.exec
  have hb := B.bytes
  have hr := B.returns
  have hts := atoms_spec (ws := wsX9_init) B.pre
  have hown : s.vm.findClass RX9 = some m.cls := findClass_of_methodNamed B.named
  have hlocks := B.notSynchronized
  have hin : meth.name = "<init>" := (name_of_methodNamed B.named B.method).1
  subst hsz
  have hD := hD0.self (sz := s.heap.size)
  generalize hAe : va_A [(h0, .inr (9, [.null, .null, .null]))] s.heap.size = A at hD ⊢
  have hA : ∀ q : Nat, s.heap.size ≤ q → A q := fun q h => by rw [← hAe]; exact Or.inr h
  have hS : va_S A s.heap s.heap [] := va_S.rf
  have hP : va_P D vwCl [(h0, .inr (9, [.null, .null, .null]))] s.heap := hP
  have hl := lv_entry ([.ref h0]) (n := 2) (Nat.le_of_ble_eq_true rfl)
  rw [lg_entry_eq]
  generalize (lg_sl ([.ref h0]) ++ List.replicate (2 - (lg_sl ([.ref h0])).length) Slot.unset).toArray = ls at hl ⊢
  have hl : lv_has ls 2 [(0, .ref h0)] := hl
  obtain ⟨G0, -⟩ : ∃ G : Nat → cG, True := ⟨fun _ => (.inl 0, fun _ => 0, fun _ => 0, fun _ => 0), trivial⟩
  have hU0 := cc_U_nil G0
  have hP : va_P D vwCl (([(h0, .inr (9, [.null, .null, .null]))] : va_W) ++ (cc_w C [] G0 ++ ([] : va_W))) s.heap := hP
  have hD : va_D A (([(h0, .inr (9, [.null, .null, .null]))] : va_W) ++ (cc_w C [] G0 ++ ([] : va_W))) := hD
  refine lv_aload_n hx hb dX9_init_0 rfl (lv_at hl 0 rfl) ?_
  refine W.objInit hx hb hown (hts (.methodLink RX9 3 objectInit) (List.mem_cons_of_mem _ (List.mem_append_left _ (List.mem_of_getElem? (i := 0) rfl)))) (hts (.instanceMethod objectInit) (List.mem_cons_of_mem _ (List.mem_append_left _ (List.mem_of_getElem? (i := 1) rfl)))) (hts _ (List.mem_of_getElem? (i := 3) rfl)) rfl (by rw [hml]; exact hl.1) rfl dX9_init_1 (Nat.le_of_ble_eq_true rfl) (Nat.le_of_ble_eq_true rfl) ?_
  refine W.eq (g2 := F0 m 4 ls []) rfl ?_
  refine lv_aload_n hx hb dX9_init_4 rfl (lv_at hl 0 rfl) ?_
  refine lv_bipush (v := (40)) hx hb dX9_init_5 (by decide) ?_
  refine va_newa (atype := .int) (ty := .int) (N' := 40) (a0 := (40, .inl (fun _ => 0))) hx hb (hts (.arrayClass .int) (List.mem_cons_of_mem _ (List.mem_append_left _ (List.mem_of_getElem? (i := 3) rfl)))) rfl hK hP hD hS hA (fun cA => vp_cell_i cA 40 (fun _ => 0)) (by decide) (by decide) (by decide) (Nat.le_of_ble_eq_true rfl) (Nat.le_of_ble_eq_true rfl) dX9_init_7 (fun q1 cA2 H hK9 hP hD hS => ?_)
  have e9 := cc_cA hK9 0 rfl
  subst e9
  have hP := va_P.swap hP
  have hD := va_D.swap hD
  have hP : va_P D vwCl (([(h0, .inr (9, [.null, .null, .null])), (q1, .inl ((C 0), 40, .inl (fun _ => 0)))] : va_W) ++ (cc_w C [] G0 ++ ([] : va_W))) H := hP
  have hD : va_D A (([(h0, .inr (9, [.null, .null, .null])), (q1, .inl ((C 0), 40, .inl (fun _ => 0)))] : va_W) ++ (cc_w C [] G0 ++ ([] : va_W))) := hD
  refine W.widen (k := 1) (n := 40) (by omega) (by omega) ?_
  refine va_putF (D := D) (ci := 9) (v := .ref q1) (ty := .array .int) (C := RX9) (T := TX9) (N := 3) hx hb hts (fun w h => List.mem_cons_of_mem _ (List.mem_append_right _ (h))) tyX9 tyX9_ok nmX9 hown hK hP hD hS 0 rfl rfl 0 (by decide) (hts (.fieldLink RX9 9 "HiddenMoves$Way" "tops" "[I") (List.mem_cons_of_mem _ (List.mem_append_left _ (List.mem_of_getElem? (i := 4) rfl)))) (fun _ h9 => h9) rfl hin rfl (by decide +kernel) rfl rfl (Nat.le_of_ble_eq_true rfl) dX9_init_9 (fun H locs hP hD hS => ?_)
  have hP : va_P D vwCl (([(h0, .inr (9, [.ref q1, .null, .null])), (q1, .inl ((C 0), 40, .inl (fun _ => 0)))] : va_W) ++ (cc_w C [] G0 ++ ([] : va_W))) H := hP
  have hD : va_D A (([(h0, .inr (9, [.ref q1, .null, .null])), (q1, .inl ((C 0), 40, .inl (fun _ => 0)))] : va_W) ++ (cc_w C [] G0 ++ ([] : va_W))) := hD
  refine lv_aload_n hx hb dX9_init_12 rfl (lv_at hl 0 rfl) ?_
  refine lv_bipush (v := (40)) hx hb dX9_init_13 (by decide) ?_
  refine va_newa (atype := .int) (ty := .int) (N' := 40) (a0 := (40, .inl (fun _ => 0))) hx hb (hts (.arrayClass .int) (List.mem_cons_of_mem _ (List.mem_append_left _ (List.mem_of_getElem? (i := 3) rfl)))) rfl hK hP hD hS hA (fun cA => vp_cell_i cA 40 (fun _ => 0)) (by decide) (by decide) (by decide) (Nat.le_of_ble_eq_true rfl) (Nat.le_of_ble_eq_true rfl) dX9_init_15 (fun q3 cA4 H hK9 hP hD hS => ?_)
  have e9 := cc_cA hK9 0 rfl
  subst e9
  have hP := va_P.swap hP
  have hD := va_D.swap hD
  have hP : va_P D vwCl (([(h0, .inr (9, [.ref q1, .null, .null])), (q1, .inl ((C 0), 40, .inl (fun _ => 0))), (q3, .inl ((C 0), 40, .inl (fun _ => 0)))] : va_W) ++ (cc_w C [] G0 ++ ([] : va_W))) H := hP
  have hD : va_D A (([(h0, .inr (9, [.ref q1, .null, .null])), (q1, .inl ((C 0), 40, .inl (fun _ => 0))), (q3, .inl ((C 0), 40, .inl (fun _ => 0)))] : va_W) ++ (cc_w C [] G0 ++ ([] : va_W))) := hD
  refine W.widen (k := 2) (n := 80) (by omega) (by omega) ?_
  refine va_putF (D := D) (ci := 9) (v := .ref q3) (ty := .array .int) (C := RX9) (T := TX9) (N := 3) hx hb hts (fun w h => List.mem_cons_of_mem _ (List.mem_append_right _ (h))) tyX9 tyX9_ok nmX9 hown hK hP hD hS 0 rfl rfl 1 (by decide) (hts (.fieldLink RX9 15 "HiddenMoves$Way" "bottoms" "[I") (List.mem_cons_of_mem _ (List.mem_append_left _ (List.mem_of_getElem? (i := 5) rfl)))) (fun _ h9 => h9) rfl hin rfl (by decide +kernel) rfl rfl (Nat.le_of_ble_eq_true rfl) dX9_init_17 (fun H locs hP hD hS => ?_)
  have hP : va_P D vwCl (([(h0, .inr (9, [.ref q1, .ref q3, .null])), (q1, .inl ((C 0), 40, .inl (fun _ => 0))), (q3, .inl ((C 0), 40, .inl (fun _ => 0)))] : va_W) ++ (cc_w C [] G0 ++ ([] : va_W))) H := hP
  have hD : va_D A (([(h0, .inr (9, [.ref q1, .ref q3, .null])), (q1, .inl ((C 0), 40, .inl (fun _ => 0))), (q3, .inl ((C 0), 40, .inl (fun _ => 0)))] : va_W) ++ (cc_w C [] G0 ++ ([] : va_W))) := hD
  refine lv_aload_n hx hb dX9_init_20 rfl (lv_at hl 0 rfl) ?_
  refine lv_bipush (v := (10)) hx hb dX9_init_21 (by decide) ?_
  refine va_newa (atype := .int) (ty := .int) (N' := 10) (a0 := (10, .inl (fun _ => 0))) hx hb (hts (.arrayClass .int) (List.mem_cons_of_mem _ (List.mem_append_left _ (List.mem_of_getElem? (i := 3) rfl)))) rfl hK hP hD hS hA (fun cA => vp_cell_i cA 10 (fun _ => 0)) (by decide) (by decide) (by decide) (Nat.le_of_ble_eq_true rfl) (Nat.le_of_ble_eq_true rfl) dX9_init_23 (fun q5 cA6 H hK9 hP hD hS => ?_)
  have e9 := cc_cA hK9 0 rfl
  subst e9
  have hP := va_P.swap hP
  have hD := va_D.swap hD
  have hP : va_P D vwCl (([(h0, .inr (9, [.ref q1, .ref q3, .null])), (q1, .inl ((C 0), 40, .inl (fun _ => 0))), (q3, .inl ((C 0), 40, .inl (fun _ => 0))), (q5, .inl ((C 0), 10, .inl (fun _ => 0)))] : va_W) ++ (cc_w C [] G0 ++ ([] : va_W))) H := hP
  have hD : va_D A (([(h0, .inr (9, [.ref q1, .ref q3, .null])), (q1, .inl ((C 0), 40, .inl (fun _ => 0))), (q3, .inl ((C 0), 40, .inl (fun _ => 0))), (q5, .inl ((C 0), 10, .inl (fun _ => 0)))] : va_W) ++ (cc_w C [] G0 ++ ([] : va_W))) := hD
  refine W.widen (k := 3) (n := 90) (by omega) (by omega) ?_
  refine va_putF (D := D) (ci := 9) (v := .ref q5) (ty := .array .int) (C := RX9) (T := TX9) (N := 3) hx hb hts (fun w h => List.mem_cons_of_mem _ (List.mem_append_right _ (h))) tyX9 tyX9_ok nmX9 hown hK hP hD hS 0 rfl rfl 2 (by decide) (hts (.fieldLink RX9 18 "HiddenMoves$Way" "taken" "[I") (List.mem_cons_of_mem _ (List.mem_append_left _ (List.mem_of_getElem? (i := 6) rfl)))) (fun _ h9 => h9) rfl hin rfl (by decide +kernel) rfl rfl (Nat.le_of_ble_eq_true rfl) dX9_init_25 (fun H locs hP hD hS => ?_)
  have hP : va_P D vwCl (([(h0, .inr (9, [.ref q1, .ref q3, .ref q5])), (q1, .inl ((C 0), 40, .inl (fun _ => 0))), (q3, .inl ((C 0), 40, .inl (fun _ => 0))), (q5, .inl ((C 0), 10, .inl (fun _ => 0)))] : va_W) ++ (cc_w C [] G0 ++ ([] : va_W))) H := hP
  have hD : va_D A (([(h0, .inr (9, [.ref q1, .ref q3, .ref q5])), (q1, .inl ((C 0), 40, .inl (fun _ => 0))), (q3, .inl ((C 0), 40, .inl (fun _ => 0))), (q5, .inl ((C 0), 10, .inl (fun _ => 0)))] : va_W) ++ (cc_w C [] G0 ++ ([] : va_W))) := hD
  refine lv_iconst (v := 0) hx hb dX9_init_28 (by decide) ?_
  refine lv_istore_n (lv' := [(1, .int 0), (0, .ref h0)]) hx hb dX9_init_29 rfl hl (by decide) rfl (fun ls hl => ?_)
  have hP := va_P.part (X := [(h0, .inr (9, [.ref q1, .ref q3, .ref q5])), (q1, .inl ((C 0), 40, .inl (fun _ => 0))), (q3, .inl ((C 0), 40, .inl (fun _ => 0))), (q5, .inl ((C 0), 10, .inl (fun _ => 0)))]) (cx := [(h0, .inr (9, [.ref q1, .ref q3, .ref q5])), (q3, .inl ((C 0), 40, .inl (fun _ => 0))), (q5, .inl ((C 0), 10, .inl (fun _ => 0))), (q1, .inl ((C 0), 40, .inl (fun _ => 0)))]) hP [0, 2, 3, 1] rfl
  have hD := va_D.part (X := [(h0, .inr (9, [.ref q1, .ref q3, .ref q5])), (q1, .inl ((C 0), 40, .inl (fun _ => 0))), (q3, .inl ((C 0), 40, .inl (fun _ => 0))), (q5, .inl ((C 0), 10, .inl (fun _ => 0)))]) (cx := [(h0, .inr (9, [.ref q1, .ref q3, .ref q5])), (q3, .inl ((C 0), 40, .inl (fun _ => 0))), (q5, .inl ((C 0), 10, .inl (fun _ => 0))), (q1, .inl ((C 0), 40, .inl (fun _ => 0)))]) hD [0, 2, 3, 1] (by decide) rfl
  obtain ⟨Lk1, Gk1, hP, hD, xk1, uk1, mk1, kk1, ak1⟩ := cc_absorbArr (X := [(h0, .inr (9, [.ref q1, .ref q3, .ref q5])), (q3, .inl ((C 0), 40, .inl (fun _ => 0))), (q5, .inl ((C 0), 10, .inl (fun _ => 0)))]) (q := q1) (t := 0) (n := 40) (e := .inl ((C 0), 40, .inl (fun _ => 0))) (fun _ => 0) rfl hP hD hU0 (h0, 0) (fun i => ⟨fun _ => by decide, fun _ => by decide, fun _ => by decide, fun _ => Or.inl rfl⟩)
  have hP : va_P D vwCl (([(h0, .inr (9, [.ref q1, .ref q3, .ref q5])), (q3, .inl ((C 0), 40, .inl (fun _ => 0))), (q5, .inl ((C 0), 10, .inl (fun _ => 0)))] : va_W) ++ (cc_w C Lk1 Gk1 ++ ([] : va_W))) H := hP
  have hD : va_D A (([(h0, .inr (9, [.ref q1, .ref q3, .ref q5])), (q3, .inl ((C 0), 40, .inl (fun _ => 0))), (q5, .inl ((C 0), 10, .inl (fun _ => 0)))] : va_W) ++ (cc_w C Lk1 Gk1 ++ ([] : va_W))) := hD
  obtain ⟨Lk2, Gk2, hP, hD, xk2, uk2, mk2, kk2, ak2⟩ := cc_absorbArr (X := [(h0, .inr (9, [.ref q1, .ref q3, .ref q5])), (q3, .inl ((C 0), 40, .inl (fun _ => 0)))]) (q := q5) (t := 0) (n := 10) (e := .inl ((C 0), 10, .inl (fun _ => 0))) (fun _ => 0) rfl hP hD uk1 (h0, 2) (fun i => ⟨fun _ => by decide, fun _ => by decide, fun _ => by decide, fun _ => Or.inl rfl⟩)
  have hP : va_P D vwCl (([(h0, .inr (9, [.ref q1, .ref q3, .ref q5])), (q3, .inl ((C 0), 40, .inl (fun _ => 0)))] : va_W) ++ (cc_w C Lk2 Gk2 ++ ([] : va_W))) H := hP
  have hD : va_D A (([(h0, .inr (9, [.ref q1, .ref q3, .ref q5])), (q3, .inl ((C 0), 40, .inl (fun _ => 0)))] : va_W) ++ (cc_w C Lk2 Gk2 ++ ([] : va_W))) := hD
  have hP : va_P D vwCl (([(h0, .inr (9, [.ref q1, .ref q3, .ref q5])), (q3, .inl ((C 0), 40, .inl (hz_a (fun _ => 0))))] : va_W) ++ (cc_w C Lk2 Gk2 ++ ([] : va_W))) H := hP
  have hD : va_D A (([(h0, .inr (9, [.ref q1, .ref q3, .ref q5])), (q3, .inl ((C 0), 40, .inl (hz_a (fun _ => 0))))] : va_W) ++ (cc_w C Lk2 Gk2 ++ ([] : va_W))) := hD
  refine hm_loop (σ := (Nat → Int)) 40 (fun i x H locs ls => va_P D vwCl (([(h0, .inr (9, [.ref q1, .ref q3, .ref q5])), (q3, .inl ((C 0), 40, .inl (hz_a x)))] : va_W) ++ (cc_w C Lk2 Gk2 ++ ([] : va_W))) H ∧ va_D A (([(h0, .inr (9, [.ref q1, .ref q3, .ref q5])), (q3, .inl ((C 0), 40, .inl (hz_a x)))] : va_W) ++ (cc_w C Lk2 Gk2 ++ ([] : va_W))) ∧ va_S A s.heap H locs ∧ lv_has ls 2 [(1, .int (nI i)), (0, .ref h0)] ∧ ∀ j, x j = 0 ∨ x j = 1) (fun i => 3 + 0 * i) (fun i => 90 + 0 * i) 30 ?_ ?_ (fun _ => 0) ⟨hP, hD, hS, hl, fun _ => Or.inl rfl⟩
  · intro x H locs ls hI
    obtain ⟨hP, hD, hS, hl, hx1⟩ := hI
    have hP : va_P D vwCl (([(h0, .inr (9, [.ref q1, .ref q3, .ref q5])), (q3, .inl ((C 0), 40, .inl (hz_a x)))] : va_W) ++ (cc_w C Lk2 Gk2 ++ ([] : va_W))) H := hP
    have hD : va_D A (([(h0, .inr (9, [.ref q1, .ref q3, .ref q5])), (q3, .inl ((C 0), 40, .inl (hz_a x)))] : va_W) ++ (cc_w C Lk2 Gk2 ++ ([] : va_W))) := hD
    have hl : lv_has ls 2 [(1, .int 40), (0, .ref h0)] := hl
    refine W.widen (k := 3) (n := 90) (by omega) (by omega) ?_
    refine lv_iload_n hx hb dX9_init_30 rfl (lv_at hl 0 rfl) ?_
    refine lv_bipush (v := (40)) hx hb dX9_init_31 (by decide) ?_
    refine lv_icmp_ge (tgt := 49) hx hb dX9_init_33 (by decide) (fun _ => ?_) (fun c9 => absurd (by decide) c9)
    obtain ⟨Lk3, Gk3, hP, hD, xk3, uk3, mk3, kk3, ak3⟩ := cc_absorbArr (X := [(h0, .inr (9, [.ref q1, .ref q3, .ref q5]))]) (q := q3) (t := 0) (n := 40) (e := .inl ((C 0), 40, .inl (hz_a x))) x rfl hP hD uk2 (h0, 1) (fun i => ⟨fun _ => by rcases hx1 i with h | h <;> rw [h] <;> decide, fun h => absurd h (by decide), fun h => absurd h (by decide), fun h => absurd h (by decide)⟩)
    have hP : va_P D vwCl (([(h0, .inr (9, [.ref q1, .ref q3, .ref q5]))] : va_W) ++ (cc_w C Lk3 Gk3 ++ ([] : va_W))) H := hP
    have hD : va_D A (([(h0, .inr (9, [.ref q1, .ref q3, .ref q5]))] : va_W) ++ (cc_w C Lk3 Gk3 ++ ([] : va_W))) := hD
    obtain ⟨Gf, hP, hD, nf, eG, xf⟩ := cc_absorb (X := []) (q := h0) (e := .inr (9, [.ref q1, .ref q3, .ref q5])) (e' := .inr (9, [.ref q1, .ref q3, .ref q5])) (.inl 9) (fun j => ([0, 0, 0] : List Int).getD j 0) (fun j => ([q1, q3, q5] : List Nat).getD j 0) (fun _ => 0) rfl (fun h => h) hP hD
    have fr : ∀ j : Nat, gr Gf h0 j = (fun j => ([q1, q3, q5] : List Nat).getD j 0) j := fun j => congrFun (congrArg (fun x : cG => x.2.2.1) eG) j
    have fz : ∀ j : Nat, gz Gf h0 j = (fun j => ([0, 0, 0] : List Int).getD j 0) j := fun j => congrFun (congrArg (fun x : cG => x.2.1) eG) j
    have fk : gK Gf h0 = .inl 9 := congrArg (fun x : cG => x.1) eG
    have hR : cc_R (h0 :: Lk3) Gf 9 h0 := ⟨⟨List.mem_cons_self, fk⟩, fun o => cc_U_imp (cc_U_obj uk3 nf xf o fk (fun F f1 fρ hd => ⟨cl_A xf (by decide) (fr 0) ((cx_t xk2 xk3) _ mk1).1 ((gK_e (cx_t xk2 xk3) mk1).trans kk1) (f1 _ _ (Or.inr (Or.inr (Or.inl ⟨rfl, rfl⟩)))).2 fρ, cl_A xf (by decide) (fr 1) mk3 kk3 (f1 _ _ (Or.inl ⟨rfl, rfl⟩)).2 fρ, cl_A xf (by decide) (fr 2) (xk3 _ mk2).1 ((gK_e xk3 mk2).trans kk2) (f1 _ _ (Or.inr (Or.inl ⟨rfl, rfl⟩))).2 fρ⟩)) (fun b o9 hb => Or.inl hb)⟩
    have r0 : gr Gf h0 0 = q1 := fr 0
    have r1 : gr Gf h0 1 = q3 := fr 1
    have m0 := ((cx_t xk2 xk3) _ mk1).1
    have m1 := mk3
    have a0 : gA Gf q1 = fun _ => 0 := (gA_e xf m0).trans ((gA_e (cx_t xk2 xk3) mk1).trans ak1)
    have a1 : gA Gf q3 = x := (gA_e xf m1).trans ((gA_e (cx_r _ _) mk3).trans ak3)
    have hWy : cy_W (h0 :: Lk3) (gK Gf) (gr Gf) (gA Gf) h0 := ⟨⟨List.mem_cons_self, fk⟩, fun i _ => by rw [r0, r1, a0, a1]; have := hx1 i; show (0 : Int) ≤ 0 ∧ 0 ≤ x i ∧ x i ≤ 9999; omega⟩
    rw [List.nil_append, List.append_nil] at hP hD
    refine W.widen (k := 3) (n := 90) (by omega) (by omega) ?_
    exact W.vret hx hb hr (fun t ht hW => ⟨⟨(), rfl, trivial, _, _, ⟨hR, hWy, by rw [r0]; exact List.mem_cons_of_mem _ m0, by rw [r1]; exact List.mem_cons_of_mem _ m1⟩, by rw [ht]; exact hP, va_K.moved hW.alike hK, hD⟩, hS.F ht⟩) hS.2.2 dX9_init_49
  · intro i x H locs ls hi hI ih
    obtain ⟨hP, hD, hS, hl, hx1⟩ := hI
    have hP : va_P D vwCl (([(h0, .inr (9, [.ref q1, .ref q3, .ref q5])), (q3, .inl ((C 0), 40, .inl (hz_a x)))] : va_W) ++ (cc_w C Lk2 Gk2 ++ ([] : va_W))) H := hP
    have hD : va_D A (([(h0, .inr (9, [.ref q1, .ref q3, .ref q5])), (q3, .inl ((C 0), 40, .inl (hz_a x)))] : va_W) ++ (cc_w C Lk2 Gk2 ++ ([] : va_W))) := hD
    have hl : lv_has ls 2 [(1, .int (nI i)), (0, .ref h0)] := hl
    refine W.widen (k := 3 + 0 * i) (n := 90 + 0 * i) (Nat.le_refl _) (Nat.le_refl _) ?_
    refine lv_iload_n hx hb dX9_init_30 rfl (lv_at hl 0 rfl) ?_
    refine lv_bipush (v := (40)) hx hb dX9_init_31 (by decide) ?_
    refine lv_icmp_ge (tgt := 49) hx hb dX9_init_33 (by decide) (fun c9 => absurd c9 (nI_ge (b := 40) hi (by decide))) (fun _ => ?_)
    refine lv_aload_n hx hb dX9_init_36 rfl (lv_at hl 1 rfl) ?_
    refine va_get (D := D) (ci := 9) (v := .ref q3) (C := RX9) (T := TX9) (N := 3) hx hb hts (fun w h => List.mem_cons_of_mem _ (List.mem_append_right _ (h))) hown hK hP 0 rfl rfl 1 (by decide) (hts (.fieldLink RX9 15 "HiddenMoves$Way" "bottoms" "[I") (List.mem_cons_of_mem _ (List.mem_append_left _ (List.mem_of_getElem? (i := 5) rfl)))) (fun _ h9 => h9) rfl dX9_init_37 ?_
    refine lv_iload_n hx hb dX9_init_40 rfl (lv_at hl 0 rfl) ?_
    refine lv_iconst (v := 1) hx hb dX9_init_41 (by decide) ?_
    refine va_iast hx hb hK hP hD hS 1 0 rfl rfl (vp_in_nI hi (by omega)) dX9_init_42 (fun H locs hP hD hS => ?_)
    have hP : va_P D vwCl (([(h0, .inr (9, [.ref q1, .ref q3, .ref q5])), (q3, .inl ((C 0), 40, .inl (upd (hz_a x) (nI i).toNatClampNeg 1)))] : va_W) ++ (cc_w C Lk2 Gk2 ++ ([] : va_W))) H := hP
    have hD : va_D A (([(h0, .inr (9, [.ref q1, .ref q3, .ref q5])), (q3, .inl ((C 0), 40, .inl (upd (hz_a x) (nI i).toNatClampNeg 1)))] : va_W) ++ (cc_w C Lk2 Gk2 ++ ([] : va_W))) := hD
    refine lv_iinc (v := nI (i + 1)) (lv' := [(1, .int (nI (i + 1))), (0, .ref h0)]) hx hb dX9_init_43 hl (k := 0) rfl (nI_1 i) (by decide) rfl (fun ls hl => ?_)
    refine lv_goto (tgt := 30) hx hb dX9_init_46 (by decide) ?_
    have e9 : upd (hz_a x) (nI i).toNatClampNeg 1 = hz_a (hz_u x (i : Int) 1) := cc_u1 x (nI_clamp (by omega))
    rw [e9] at hP hD
    have hP : va_P D vwCl (([(h0, .inr (9, [.ref q1, .ref q3, .ref q5])), (q3, .inl ((C 0), 40, .inl (hz_a (hz_u x (i : Int) 1))))] : va_W) ++ (cc_w C Lk2 Gk2 ++ ([] : va_W))) H := hP
    have hD : va_D A (([(h0, .inr (9, [.ref q1, .ref q3, .ref q5])), (q3, .inl ((C 0), 40, .inl (hz_a (hz_u x (i : Int) 1))))] : va_W) ++ (cc_w C Lk2 Gk2 ++ ([] : va_W))) := hD
    refine W.widen (k := 3 + 0 * (i + 1)) (n := 90 + 0 * (i + 1)) (by omega) (by omega) ?_
    refine ih (hz_u x (i : Int) 1) _ _ _ ⟨hP, hD, hS, lv_sub hl [0, 1] rfl, fun j => ?_⟩
    unfold hz_u
    split
    · exact Or.inr rfl
    · exact hx1 j
