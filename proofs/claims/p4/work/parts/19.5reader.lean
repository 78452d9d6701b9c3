set_option maxHeartbeats 4000000 in
set_option maxRecDepth 100000 in
/-- Reader() -/
theorem n_X5_init (l : Launch) (D : va_G) (C : Nat → ClassId) (h0 sz : Nat) : Met l yX5_init wsX5_init ({ frames := 3, cells := 45, slots := 8172, locals := 53 }) (va_Pc [.ref h0] (hm_P D [(h0, .inr (5, [.int 0, .int 0, .null, .null, .null, .int 0, .int 0, .long 0, .long 0, .null, .null, .null, .null]))] (cw_t C) sz)) (va_Qv (fun _ : Unit => True) (fun _ t => ∃ (L : List Nat) (G : Nat → cG) (L2 : List Nat) (G2 : Nat → cG), cc_5 L G L2 G2 h0 ∧ hm_B D (va_A [(h0, .inr (5, [.int 0, .int 0, .null, .null, .null, .int 0, .int 0, .long 0, .long 0, .null, .null, .null, .null]))] sz) (cc_w C L G ++ cc_w C L2 G2) (cw_t C) t) (va_A [(h0, .inr (5, [.int 0, .int 0, .null, .null, .null, .int 0, .int 0, .long 0, .long 0, .null, .null, .null, .null]))] sz)) 45 8172 (va_A [(h0, .inr (5, [.int 0, .int 0, .null, .null, .null, .int 0, .int 0, .long 0, .long 0, .null, .null, .null, .null]))] sz) := by
  refine Met.ofW (cc := cX5_init) (maxL := 1) (ret := none) (by decide) rfl ?_
  intro p e s m args below meth c s₁ B hml hv
  obtain ⟨rfl, hsz, hP, hK, hD0, hE⟩ := hv
  have hx := B.exec
  have hb := B.bytes
  have hr := B.returns
  have hts := atoms_spec (ws := wsX5_init) B.pre
  have hown : s.vm.findClass RX5 = some m.cls := findClass_of_methodNamed B.named
  have hlocks := B.notSynchronized
  have hin : meth.name = "<init>" := (name_of_methodNamed B.named B.method).1
  subst hsz
  have hD := hD0.self (sz := s.heap.size)
  generalize hAe : va_A [(h0, .inr (5, [.int 0, .int 0, .null, .null, .null, .int 0, .int 0, .long 0, .long 0, .null, .null, .null, .null]))] s.heap.size = A at hD ⊢
  have hA : ∀ q : Nat, s.heap.size ≤ q → A q := fun q h => by rw [← hAe]; exact Or.inr h
  have hS : va_S A s.heap s.heap [] := va_S.rf
  have hP : va_P D vwCl [(h0, .inr (5, [.int 0, .int 0, .null, .null, .null, .int 0, .int 0, .long 0, .long 0, .null, .null, .null, .null]))] s.heap := hP
  have hl := lv_entry ([.ref h0]) (n := 1) (Nat.le_of_ble_eq_true rfl)
  rw [lg_entry_eq]
  generalize (lg_sl ([.ref h0]) ++ List.replicate (1 - (lg_sl ([.ref h0])).length) Slot.unset).toArray = ls at hl ⊢
  have hl : lv_has ls 1 [(0, .ref h0)] := hl
  obtain ⟨G0, -⟩ : ∃ G : Nat → cG, True := ⟨fun _ => (.inl 0, fun _ => 0, fun _ => 0, fun _ => 0), trivial⟩
  have hU0 := cc_U_nil G0
  have hP : va_P D vwCl ([(h0, .inr (5, [.int 0, .int 0, .null, .null, .null, .int 0, .int 0, .long 0, .long 0, .null, .null, .null, .null]))] ++ (cc_w C [] G0 ++ ([] : va_W))) s.heap := hP
  have hD : va_D A ([(h0, .inr (5, [.int 0, .int 0, .null, .null, .null, .int 0, .int 0, .long 0, .long 0, .null, .null, .null, .null]))] ++ (cc_w C [] G0 ++ ([] : va_W))) := hD
  refine lv_aload_n hx hb dX5_init_0 rfl (lv_at hl 0 rfl) ?_
  refine W.objInit hx hb hown (hts (.methodLink RX5 3 objectInit) (by decide +kernel)) (hts (.instanceMethod objectInit) (by decide +kernel)) (hts _ (List.mem_of_getElem? (i := 3) rfl)) rfl (by rw [hml]; exact hl.1) rfl dX5_init_1 (Nat.le_of_ble_eq_true rfl) (Nat.le_of_ble_eq_true rfl) ?_
  refine W.eq (g2 := F0 m 4 ls []) rfl ?_
  refine lv_aload_n hx hb dX5_init_4 rfl (lv_at hl 0 rfl) ?_
  refine lv_iconst (v := (-1)) hx hb dX5_init_5 (by decide) ?_
  refine va_put (D := D) (ci := 5) (v := .int (-1)) (ty := .int) (C := RX5) (T := TX5) (N := 13) hx hb hts (by decide +kernel) tyX5 tyX5_ok nmX5 hown hK hP hD hS 0 rfl rfl 0 (by decide) (hts (.fieldLink RX5 9 "HiddenMoves$Reader" "faultPlace" "I") (by decide +kernel)) (fun _ h9 => h9) rfl (by decide +kernel) rfl rfl (Nat.le_of_ble_eq_true rfl) dX5_init_6 (fun H locs hP hD hS => ?_)
  have hP : va_P D vwCl ([(h0, .inr (5, [.int (-1), .int 0, .null, .null, .null, .int 0, .int 0, .long 0, .long 0, .null, .null, .null, .null]))] ++ (cc_w C [] G0 ++ ([] : va_W))) H := hP
  have hD : va_D A ([(h0, .inr (5, [.int (-1), .int 0, .null, .null, .null, .int 0, .int 0, .long 0, .long 0, .null, .null, .null, .null]))] ++ (cc_w C [] G0 ++ ([] : va_W))) := hD
  refine lv_aload_n hx hb dX5_init_9 rfl (lv_at hl 0 rfl) ?_
  refine lv_iconst (v := 0) hx hb dX5_init_10 (by decide) ?_
  refine va_put (D := D) (ci := 5) (v := .int 0) (ty := .int) (C := RX5) (T := TX5) (N := 13) hx hb hts (by decide +kernel) tyX5 tyX5_ok nmX5 hown hK hP hD hS 0 rfl rfl 1 (by decide) (hts (.fieldLink RX5 15 "HiddenMoves$Reader" "fault" "I") (by decide +kernel)) (fun _ h9 => h9) rfl (by decide +kernel) rfl rfl (Nat.le_of_ble_eq_true rfl) dX5_init_11 (fun H locs hP hD hS => ?_)
  have hP : va_P D vwCl ([(h0, .inr (5, [.int (-1), .int 0, .null, .null, .null, .int 0, .int 0, .long 0, .long 0, .null, .null, .null, .null]))] ++ (cc_w C [] G0 ++ ([] : va_W))) H := hP
  have hD : va_D A ([(h0, .inr (5, [.int (-1), .int 0, .null, .null, .null, .int 0, .int 0, .long 0, .long 0, .null, .null, .null, .null]))] ++ (cc_w C [] G0 ++ ([] : va_W))) := hD
  refine lv_aload_n hx hb dX5_init_14 rfl (lv_at hl 0 rfl) ?_
  refine va_new (ci := 10) (fs := [.null, .int 0, .int 0, .int 0, .int 0, .int 0]) (C := RX10) (T := TX10) (N := 6) hx hb hts (by decide +kernel) tyX10 tyX10_ok hown (hts (.classLink RX5 18 RX10) (by decide +kernel)) (hts (.instantiable RX10 6) (by decide +kernel)) (hts (.initialized RX10) (by decide +kernel)) hK hP hD hS hA rfl (fun j hj => by rcases (show j = 0 ∨ j = 1 ∨ j = 2 ∨ j = 3 ∨ j = 4 ∨ j = 5 by omega) with rfl | rfl | rfl | rfl | rfl | rfl <;> rfl) (Nat.le_of_ble_eq_true rfl) (Nat.le_of_ble_eq_true rfl) dX5_init_15 (fun q1 H hP hD hS => ?_)
  have hP := va_P.swap hP
  have hD := va_D.swap hD
  have hP : va_P D vwCl ([(h0, .inr (5, [.int (-1), .int 0, .null, .null, .null, .int 0, .int 0, .long 0, .long 0, .null, .null, .null, .null])), (q1, .inr (10, [.null, .int 0, .int 0, .int 0, .int 0, .int 0]))] ++ (cc_w C [] G0 ++ ([] : va_W))) H := hP
  have hD : va_D A ([(h0, .inr (5, [.int (-1), .int 0, .null, .null, .null, .int 0, .int 0, .long 0, .long 0, .null, .null, .null, .null])), (q1, .inr (10, [.null, .int 0, .int 0, .int 0, .int 0, .int 0]))] ++ (cc_w C [] G0 ++ ([] : va_W))) := hD
  refine W.widen (k := 1) (n := 6) (by omega) (by omega) ?_
  refine lv_dup hx hb dX5_init_18 rfl ?_
  have hPc := hP.sub (ws' := [(q1, .inr (10, [.null, .int 0, .int 0, .int 0, .int 0, .int 0]))]) [1] rfl
  have hDc := hD.sub (ws' := [(q1, .inr (10, [.null, .int 0, .int 0, .int 0, .int 0, .int 0]))]) [1] (by decide) rfl
  have hFc := va_free (wc := [(q1, .inr (10, [.null, .int 0, .int 0, .int 0, .int 0, .int 0]))]) hD hS hA [1] rfl
  refine va_callv (va_runIN (As := []) (rest := [.ref q1, .ref h0]) ⟨hx, hb, hml, hown, hts⟩ (n_X10_init l D C q1 _) ⟨va_cnB 0 hts gX5_init_X10_init_n20 rfl rfl rfl (hE.nest_RX5_20) (hts (.initialized RX10) (by decide +kernel)) (by decide +kernel) ⟨Nat.le_of_ble_eq_true rfl, Nat.le_of_ble_eq_true rfl⟩, rfl, (hts (.instanceMethod yX10_init) (by decide +kernel))⟩ ⟨hm_blind, hm_pre hPc hK hDc hE⟩ rfl rfl hl.1 rfl (lv_room (Nat.le_of_ble_eq_true rfl)) dX5_init_19 ⟨(Nat.le_of_ble_eq_true rfl), (Nat.le_of_ble_eq_true rfl)⟩) hS (fun q _ h => hFc q h) hFc (fun u t H1 locs ht hvm hw hB hz1 hk1 hS => ?_)
  obtain ⟨Lp2, Gp2, ⟨hR2, hT2, hz2⟩, hP1, hK1, hD1⟩ := hB
  rw [ht] at hP1
  obtain ⟨hP, hD⟩ := va_joinQ (X := [(h0, .inr (5, [.int (-1), .int 0, .null, .null, .null, .int 0, .int 0, .long 0, .long 0, .null, .null, .null, .null])), (q1, .inr (10, [.null, .int 0, .int 0, .int 0, .int 0, .int 0]))]) (cx := [(q1, .inr (10, [.null, .int 0, .int 0, .int 0, .int 0, .int 0]))]) (wr := [(h0, .inr (5, [.int (-1), .int 0, .null, .null, .null, .int 0, .int 0, .long 0, .long 0, .null, .null, .null, .null]))]) (w1 := cc_w C Lp2 Gp2) (pl := (cc_w C [] G0 ++ ([] : va_W))) hP hD [1] [0] rfl rfl (by decide) (by decide) hk1 hFc hP1 hD1
  generalize H1 = H at hP hS ⊢
  obtain ⟨Lk1, Gk1, hP, hD, xk1, uk1, ok1, pk1⟩ := cc_joinW (X := [(h0, .inr (5, [.int (-1), .int 0, .null, .null, .null, .int 0, .int 0, .long 0, .long 0, .null, .null, .null, .null]))]) hP hD hU0 hR2 (h0, 2)
  have hP : va_P D vwCl ([(h0, .inr (5, [.int (-1), .int 0, .null, .null, .null, .int 0, .int 0, .long 0, .long 0, .null, .null, .null, .null]))] ++ (cc_w C Lk1 Gk1 ++ ([] : va_W))) H := hP
  have hD : va_D A ([(h0, .inr (5, [.int (-1), .int 0, .null, .null, .null, .int 0, .int 0, .long 0, .long 0, .null, .null, .null, .null]))] ++ (cc_w C Lk1 Gk1 ++ ([] : va_W))) := hD
  refine W.widen (k := 2) (n := 4006) (by omega) (by omega) ?_
  refine va_putF (D := D) (ci := 5) (v := .ref q1) (ty := .object "HiddenMoves$Words") (C := RX5) (T := TX5) (N := 13) hx hb hts (by decide +kernel) tyX5 tyX5_ok nmX5 hown hK hP hD hS 0 rfl rfl 2 (by decide) (hts (.fieldLink RX5 21 "HiddenMoves$Reader" "words" "LHiddenMoves$Words;") (by decide +kernel)) (fun _ h9 => h9) rfl hin rfl (by decide +kernel) rfl rfl (Nat.le_of_ble_eq_true rfl) dX5_init_22 (fun H locs hP hD hS => ?_)
  have hP : va_P D vwCl ([(h0, .inr (5, [.int (-1), .int 0, .ref q1, .null, .null, .int 0, .int 0, .long 0, .long 0, .null, .null, .null, .null]))] ++ (cc_w C Lk1 Gk1 ++ ([] : va_W))) H := hP
  have hD : va_D A ([(h0, .inr (5, [.int (-1), .int 0, .ref q1, .null, .null, .int 0, .int 0, .long 0, .long 0, .null, .null, .null, .null]))] ++ (cc_w C Lk1 Gk1 ++ ([] : va_W))) := hD
  refine lv_aload_n hx hb dX5_init_25 rfl (lv_at hl 0 rfl) ?_
  refine va_new (ci := 2) (fs := [.null, .null, .long 0, .null]) (C := RX2) (T := TX2) (N := 4) hx hb hts (by decide +kernel) tyX2 tyX2_ok hown (hts (.classLink RX5 25 RX2) (by decide +kernel)) (hts (.instantiable RX2 4) (by decide +kernel)) (hts (.initialized RX2) (by decide +kernel)) hK hP hD hS hA rfl (fun j hj => by rcases (show j = 0 ∨ j = 1 ∨ j = 2 ∨ j = 3 by omega) with rfl | rfl | rfl | rfl <;> rfl) (Nat.le_of_ble_eq_true rfl) (Nat.le_of_ble_eq_true rfl) dX5_init_26 (fun q3 H hP hD hS => ?_)
  have hP := va_P.swap hP
  have hD := va_D.swap hD
  have hP : va_P D vwCl ([(h0, .inr (5, [.int (-1), .int 0, .ref q1, .null, .null, .int 0, .int 0, .long 0, .long 0, .null, .null, .null, .null])), (q3, .inr (2, [.null, .null, .long 0, .null]))] ++ (cc_w C Lk1 Gk1 ++ ([] : va_W))) H := hP
  have hD : va_D A ([(h0, .inr (5, [.int (-1), .int 0, .ref q1, .null, .null, .int 0, .int 0, .long 0, .long 0, .null, .null, .null, .null])), (q3, .inr (2, [.null, .null, .long 0, .null]))] ++ (cc_w C Lk1 Gk1 ++ ([] : va_W))) := hD
  refine W.widen (k := 3) (n := 4010) (by omega) (by omega) ?_
  refine lv_dup hx hb dX5_init_29 rfl ?_
  have hPc := hP.sub (ws' := [(q3, .inr (2, [.null, .null, .long 0, .null]))]) [1] rfl
  have hDc := hD.sub (ws' := [(q3, .inr (2, [.null, .null, .long 0, .null]))]) [1] (by decide) rfl
  have hFc := va_free (wc := [(q3, .inr (2, [.null, .null, .long 0, .null]))]) hD hS hA [1] rfl
  refine va_callv (va_runI (As := []) (rest := [.ref q3, .ref h0]) ⟨hx, hb, hml, hown, hts⟩ (n_X2_init l D C q3 _) (cwI 0 hts gX5_init_X2_init rfl rfl rfl (hts (.initialized RX2) (by decide +kernel)) (hts (.methodLink RX5 27 yX2_init) (by decide +kernel)) (hts (.instanceMethod yX2_init) (by decide +kernel)) rfl (by decide +kernel) ⟨Nat.le_of_ble_eq_true rfl, Nat.le_of_ble_eq_true rfl⟩) ⟨hm_blind, hm_pre hPc hK hDc hE⟩ rfl rfl hl.1 rfl (lv_room (Nat.le_of_ble_eq_true rfl)) dX5_init_30 ⟨(Nat.le_of_ble_eq_true rfl), (Nat.le_of_ble_eq_true rfl)⟩) hS (fun q _ h => hFc q h) hFc (fun u t H1 locs ht hvm hw hB hz1 hk1 hS => ?_)
  obtain ⟨Lp4, Gp4, hR4, hP1, hK1, hD1⟩ := hB
  rw [ht] at hP1
  obtain ⟨hP, hD⟩ := va_joinQ (X := [(h0, .inr (5, [.int (-1), .int 0, .ref q1, .null, .null, .int 0, .int 0, .long 0, .long 0, .null, .null, .null, .null])), (q3, .inr (2, [.null, .null, .long 0, .null]))]) (cx := [(q3, .inr (2, [.null, .null, .long 0, .null]))]) (wr := [(h0, .inr (5, [.int (-1), .int 0, .ref q1, .null, .null, .int 0, .int 0, .long 0, .long 0, .null, .null, .null, .null]))]) (w1 := cc_w C Lp4 Gp4) (pl := (cc_w C Lk1 Gk1 ++ ([] : va_W))) hP hD [1] [0] rfl rfl (by decide) (by decide) hk1 hFc hP1 hD1
  generalize H1 = H at hP hS ⊢
  obtain ⟨hP, hD⟩ := cc_aside (X := [(h0, .inr (5, [.int (-1), .int 0, .ref q1, .null, .null, .int 0, .int 0, .long 0, .long 0, .null, .null, .null, .null]))]) hP hD
  have hP : va_P D vwCl ([(h0, .inr (5, [.int (-1), .int 0, .ref q1, .null, .null, .int 0, .int 0, .long 0, .long 0, .null, .null, .null, .null]))] ++ (cc_w C Lk1 Gk1 ++ (cc_w C Lp4 Gp4))) H := hP
  have hD : va_D A ([(h0, .inr (5, [.int (-1), .int 0, .ref q1, .null, .null, .int 0, .int 0, .long 0, .long 0, .null, .null, .null, .null]))] ++ (cc_w C Lk1 Gk1 ++ (cc_w C Lp4 Gp4))) := hD
  refine W.widen (k := 40) (n := 4572) (by omega) (by omega) ?_
  refine va_put (D := D) (ci := 5) (v := .ref q3) (ty := .object "HiddenMoves$Game") (C := RX5) (T := TX5) (N := 13) hx hb hts (by decide +kernel) tyX5 tyX5_ok nmX5 hown hK hP hD hS 0 rfl rfl 3 (by decide) (hts (.fieldLink RX5 28 "HiddenMoves$Reader" "game" "LHiddenMoves$Game;") (by decide +kernel)) (fun _ h9 => h9) rfl (by decide +kernel) rfl rfl (Nat.le_of_ble_eq_true rfl) dX5_init_33 (fun H locs hP hD hS => ?_)
  have hP : va_P D vwCl ([(h0, .inr (5, [.int (-1), .int 0, .ref q1, .ref q3, .null, .int 0, .int 0, .long 0, .long 0, .null, .null, .null, .null]))] ++ (cc_w C Lk1 Gk1 ++ (cc_w C Lp4 Gp4))) H := hP
  have hD : va_D A ([(h0, .inr (5, [.int (-1), .int 0, .ref q1, .ref q3, .null, .int 0, .int 0, .long 0, .long 0, .null, .null, .null, .null]))] ++ (cc_w C Lk1 Gk1 ++ (cc_w C Lp4 Gp4))) := hD
  refine lv_aload_n hx hb dX5_init_36 rfl (lv_at hl 0 rfl) ?_
  refine lv_sipush (v := (2000)) hx hb dX5_init_37 (by decide) ?_
  refine va_newa (atype := .boolean) (ty := .boolean) (N' := 2000) (a0 := (2000, .inl (fun _ => 0))) hx hb (hts (.arrayClass .boolean) (by decide +kernel)) rfl hK hP hD hS hA (fun cA => vp_cell_i cA 2000 (fun _ => 0)) (by decide) (by decide) (by decide) (Nat.le_of_ble_eq_true rfl) (Nat.le_of_ble_eq_true rfl) dX5_init_40 (fun q5 cA6 H hK9 hP hD hS => ?_)
  have e9 := cc_cA hK9 3 rfl
  subst e9
  have hP := va_P.swap hP
  have hD := va_D.swap hD
  have hP : va_P D vwCl ([(h0, .inr (5, [.int (-1), .int 0, .ref q1, .ref q3, .null, .int 0, .int 0, .long 0, .long 0, .null, .null, .null, .null])), (q5, .inl ((C 3), 2000, .inl (fun _ => 0)))] ++ (cc_w C Lk1 Gk1 ++ (cc_w C Lp4 Gp4))) H := hP
  have hD : va_D A ([(h0, .inr (5, [.int (-1), .int 0, .ref q1, .ref q3, .null, .int 0, .int 0, .long 0, .long 0, .null, .null, .null, .null])), (q5, .inl ((C 3), 2000, .inl (fun _ => 0)))] ++ (cc_w C Lk1 Gk1 ++ (cc_w C Lp4 Gp4))) := hD
  refine W.widen (k := 41) (n := 6572) (by omega) (by omega) ?_
  refine va_putF (D := D) (ci := 5) (v := .ref q5) (ty := .array .boolean) (C := RX5) (T := TX5) (N := 13) hx hb hts (by decide +kernel) tyX5 tyX5_ok nmX5 hown hK hP hD hS 0 rfl rfl 4 (by decide) (hts (.fieldLink RX5 32 "HiddenMoves$Reader" "isDrawOpen" "[Z") (by decide +kernel)) (fun _ h9 => h9) rfl hin rfl (by decide +kernel) rfl rfl (Nat.le_of_ble_eq_true rfl) dX5_init_42 (fun H locs hP hD hS => ?_)
  have hP : va_P D vwCl ([(h0, .inr (5, [.int (-1), .int 0, .ref q1, .ref q3, .ref q5, .int 0, .int 0, .long 0, .long 0, .null, .null, .null, .null])), (q5, .inl ((C 3), 2000, .inl (fun _ => 0)))] ++ (cc_w C Lk1 Gk1 ++ (cc_w C Lp4 Gp4))) H := hP
  have hD : va_D A ([(h0, .inr (5, [.int (-1), .int 0, .ref q1, .ref q3, .ref q5, .int 0, .int 0, .long 0, .long 0, .null, .null, .null, .null])), (q5, .inl ((C 3), 2000, .inl (fun _ => 0)))] ++ (cc_w C Lk1 Gk1 ++ (cc_w C Lp4 Gp4))) := hD
  refine lv_aload_n hx hb dX5_init_45 rfl (lv_at hl 0 rfl) ?_
  refine lv_iconst (v := 0) hx hb dX5_init_46 (by decide) ?_
  refine va_put (D := D) (ci := 5) (v := .int 0) (ty := .int) (C := RX5) (T := TX5) (N := 13) hx hb hts (by decide +kernel) tyX5 tyX5_ok nmX5 hown hK hP hD hS 0 rfl rfl 5 (by decide) (hts (.fieldLink RX5 36 "HiddenMoves$Reader" "open" "I") (by decide +kernel)) (fun _ h9 => h9) rfl (by decide +kernel) rfl rfl (Nat.le_of_ble_eq_true rfl) dX5_init_47 (fun H locs hP hD hS => ?_)
  have hP : va_P D vwCl ([(h0, .inr (5, [.int (-1), .int 0, .ref q1, .ref q3, .ref q5, .int 0, .int 0, .long 0, .long 0, .null, .null, .null, .null])), (q5, .inl ((C 3), 2000, .inl (fun _ => 0)))] ++ (cc_w C Lk1 Gk1 ++ (cc_w C Lp4 Gp4))) H := hP
  have hD : va_D A ([(h0, .inr (5, [.int (-1), .int 0, .ref q1, .ref q3, .ref q5, .int 0, .int 0, .long 0, .long 0, .null, .null, .null, .null])), (q5, .inl ((C 3), 2000, .inl (fun _ => 0)))] ++ (cc_w C Lk1 Gk1 ++ (cc_w C Lp4 Gp4))) := hD
  refine lv_aload_n hx hb dX5_init_50 rfl (lv_at hl 0 rfl) ?_
  refine lv_iconst (v := 0) hx hb dX5_init_51 (by decide) ?_
  refine va_put (D := D) (ci := 5) (v := .int 0) (ty := .boolean) (C := RX5) (T := TX5) (N := 13) hx hb hts (by decide +kernel) tyX5 tyX5_ok nmX5 hown hK hP hD hS 0 rfl rfl 6 (by decide) (hts (.fieldLink RX5 39 "HiddenMoves$Reader" "isInEnd" "Z") (by decide +kernel)) (fun _ h9 => h9) rfl (by decide +kernel) rfl rfl (Nat.le_of_ble_eq_true rfl) dX5_init_52 (fun H locs hP hD hS => ?_)
  have hP : va_P D vwCl ([(h0, .inr (5, [.int (-1), .int 0, .ref q1, .ref q3, .ref q5, .int 0, .int 0, .long 0, .long 0, .null, .null, .null, .null])), (q5, .inl ((C 3), 2000, .inl (fun _ => 0)))] ++ (cc_w C Lk1 Gk1 ++ (cc_w C Lp4 Gp4))) H := hP
  have hD : va_D A ([(h0, .inr (5, [.int (-1), .int 0, .ref q1, .ref q3, .ref q5, .int 0, .int 0, .long 0, .long 0, .null, .null, .null, .null])), (q5, .inl ((C 3), 2000, .inl (fun _ => 0)))] ++ (cc_w C Lk1 Gk1 ++ (cc_w C Lp4 Gp4))) := hD
  refine lv_aload_n hx hb dX5_init_55 rfl (lv_at hl 0 rfl) ?_
  refine lv_lconst (v := 0) hx hb dX5_init_56 (by decide) ?_
  refine va_put (D := D) (ci := 5) (v := .long 0) (ty := .long) (C := RX5) (T := TX5) (N := 13) hx hb hts (by decide +kernel) tyX5 tyX5_ok nmX5 hown hK hP hD hS 0 rfl rfl 7 (by decide) (hts (.fieldLink RX5 43 "HiddenMoves$Reader" "fractionTop" "J") (by decide +kernel)) (fun _ h9 => h9) rfl (by decide +kernel) rfl rfl (Nat.le_of_ble_eq_true rfl) dX5_init_57 (fun H locs hP hD hS => ?_)
  have hP : va_P D vwCl ([(h0, .inr (5, [.int (-1), .int 0, .ref q1, .ref q3, .ref q5, .int 0, .int 0, .long 0, .long 0, .null, .null, .null, .null])), (q5, .inl ((C 3), 2000, .inl (fun _ => 0)))] ++ (cc_w C Lk1 Gk1 ++ (cc_w C Lp4 Gp4))) H := hP
  have hD : va_D A ([(h0, .inr (5, [.int (-1), .int 0, .ref q1, .ref q3, .ref q5, .int 0, .int 0, .long 0, .long 0, .null, .null, .null, .null])), (q5, .inl ((C 3), 2000, .inl (fun _ => 0)))] ++ (cc_w C Lk1 Gk1 ++ (cc_w C Lp4 Gp4))) := hD
  refine lv_aload_n hx hb dX5_init_60 rfl (lv_at hl 0 rfl) ?_
  refine lv_lconst (v := 1) hx hb dX5_init_61 (by decide) ?_
  refine va_put (D := D) (ci := 5) (v := .long 1) (ty := .long) (C := RX5) (T := TX5) (N := 13) hx hb hts (by decide +kernel) tyX5 tyX5_ok nmX5 hown hK hP hD hS 0 rfl rfl 8 (by decide) (hts (.fieldLink RX5 47 "HiddenMoves$Reader" "fractionBottom" "J") (by decide +kernel)) (fun _ h9 => h9) rfl (by decide +kernel) rfl rfl (Nat.le_of_ble_eq_true rfl) dX5_init_62 (fun H locs hP hD hS => ?_)
  have hP : va_P D vwCl ([(h0, .inr (5, [.int (-1), .int 0, .ref q1, .ref q3, .ref q5, .int 0, .int 0, .long 0, .long 1, .null, .null, .null, .null])), (q5, .inl ((C 3), 2000, .inl (fun _ => 0)))] ++ (cc_w C Lk1 Gk1 ++ (cc_w C Lp4 Gp4))) H := hP
  have hD : va_D A ([(h0, .inr (5, [.int (-1), .int 0, .ref q1, .ref q3, .ref q5, .int 0, .int 0, .long 0, .long 1, .null, .null, .null, .null])), (q5, .inl ((C 3), 2000, .inl (fun _ => 0)))] ++ (cc_w C Lk1 Gk1 ++ (cc_w C Lp4 Gp4))) := hD
  refine lv_aload_n hx hb dX5_init_65 rfl (lv_at hl 0 rfl) ?_
  refine lv_sipush (v := (400)) hx hb dX5_init_66 (by decide) ?_
  refine va_newa (atype := .long) (ty := .long) (N' := 400) (a0 := (400, .inr (.inl (fun _ => 0)))) hx hb (hts (.arrayClass .long) (by decide +kernel)) rfl hK hP hD hS hA (fun cA => vp_cell_l cA 400 (fun _ => 0)) (by decide) (by decide) (by decide) (Nat.le_of_ble_eq_true rfl) (Nat.le_of_ble_eq_true rfl) dX5_init_69 (fun q7 cA8 H hK9 hP hD hS => ?_)
  have e9 := cc_cA hK9 1 rfl
  subst e9
  have hP := va_P.swap hP
  have hD := va_D.swap hD
  have hP : va_P D vwCl ([(h0, .inr (5, [.int (-1), .int 0, .ref q1, .ref q3, .ref q5, .int 0, .int 0, .long 0, .long 1, .null, .null, .null, .null])), (q5, .inl ((C 3), 2000, .inl (fun _ => 0))), (q7, .inl ((C 1), 400, .inr (.inl (fun _ => 0))))] ++ (cc_w C Lk1 Gk1 ++ (cc_w C Lp4 Gp4))) H := hP
  have hD : va_D A ([(h0, .inr (5, [.int (-1), .int 0, .ref q1, .ref q3, .ref q5, .int 0, .int 0, .long 0, .long 1, .null, .null, .null, .null])), (q5, .inl ((C 3), 2000, .inl (fun _ => 0))), (q7, .inl ((C 1), 400, .inr (.inl (fun _ => 0))))] ++ (cc_w C Lk1 Gk1 ++ (cc_w C Lp4 Gp4))) := hD
  refine W.widen (k := 42) (n := 6972) (by omega) (by omega) ?_
  refine va_putF (D := D) (ci := 5) (v := .ref q7) (ty := .array .long) (C := RX5) (T := TX5) (N := 13) hx hb hts (by decide +kernel) tyX5 tyX5_ok nmX5 hown hK hP hD hS 0 rfl rfl 9 (by decide) (hts (.fieldLink RX5 50 "HiddenMoves$Reader" "endTops" "[J") (by decide +kernel)) (fun _ h9 => h9) rfl hin rfl (by decide +kernel) rfl rfl (Nat.le_of_ble_eq_true rfl) dX5_init_71 (fun H locs hP hD hS => ?_)
  have hP : va_P D vwCl ([(h0, .inr (5, [.int (-1), .int 0, .ref q1, .ref q3, .ref q5, .int 0, .int 0, .long 0, .long 1, .ref q7, .null, .null, .null])), (q5, .inl ((C 3), 2000, .inl (fun _ => 0))), (q7, .inl ((C 1), 400, .inr (.inl (fun _ => 0))))] ++ (cc_w C Lk1 Gk1 ++ (cc_w C Lp4 Gp4))) H := hP
  have hD : va_D A ([(h0, .inr (5, [.int (-1), .int 0, .ref q1, .ref q3, .ref q5, .int 0, .int 0, .long 0, .long 1, .ref q7, .null, .null, .null])), (q5, .inl ((C 3), 2000, .inl (fun _ => 0))), (q7, .inl ((C 1), 400, .inr (.inl (fun _ => 0))))] ++ (cc_w C Lk1 Gk1 ++ (cc_w C Lp4 Gp4))) := hD
  refine lv_aload_n hx hb dX5_init_74 rfl (lv_at hl 0 rfl) ?_
  refine lv_sipush (v := (400)) hx hb dX5_init_75 (by decide) ?_
  refine va_newa (atype := .long) (ty := .long) (N' := 400) (a0 := (400, .inr (.inl (fun _ => 0)))) hx hb (hts (.arrayClass .long) (by decide +kernel)) rfl hK hP hD hS hA (fun cA => vp_cell_l cA 400 (fun _ => 0)) (by decide) (by decide) (by decide) (Nat.le_of_ble_eq_true rfl) (Nat.le_of_ble_eq_true rfl) dX5_init_78 (fun q9 cA10 H hK9 hP hD hS => ?_)
  have e9 := cc_cA hK9 1 rfl
  subst e9
  have hP := va_P.swap hP
  have hD := va_D.swap hD
  have hP : va_P D vwCl ([(h0, .inr (5, [.int (-1), .int 0, .ref q1, .ref q3, .ref q5, .int 0, .int 0, .long 0, .long 1, .ref q7, .null, .null, .null])), (q5, .inl ((C 3), 2000, .inl (fun _ => 0))), (q7, .inl ((C 1), 400, .inr (.inl (fun _ => 0)))), (q9, .inl ((C 1), 400, .inr (.inl (fun _ => 0))))] ++ (cc_w C Lk1 Gk1 ++ (cc_w C Lp4 Gp4))) H := hP
  have hD : va_D A ([(h0, .inr (5, [.int (-1), .int 0, .ref q1, .ref q3, .ref q5, .int 0, .int 0, .long 0, .long 1, .ref q7, .null, .null, .null])), (q5, .inl ((C 3), 2000, .inl (fun _ => 0))), (q7, .inl ((C 1), 400, .inr (.inl (fun _ => 0)))), (q9, .inl ((C 1), 400, .inr (.inl (fun _ => 0))))] ++ (cc_w C Lk1 Gk1 ++ (cc_w C Lp4 Gp4))) := hD
  refine W.widen (k := 43) (n := 7372) (by omega) (by omega) ?_
  refine va_putF (D := D) (ci := 5) (v := .ref q9) (ty := .array .long) (C := RX5) (T := TX5) (N := 13) hx hb hts (by decide +kernel) tyX5 tyX5_ok nmX5 hown hK hP hD hS 0 rfl rfl 10 (by decide) (hts (.fieldLink RX5 54 "HiddenMoves$Reader" "endBottoms" "[J") (by decide +kernel)) (fun _ h9 => h9) rfl hin rfl (by decide +kernel) rfl rfl (Nat.le_of_ble_eq_true rfl) dX5_init_80 (fun H locs hP hD hS => ?_)
  have hP : va_P D vwCl ([(h0, .inr (5, [.int (-1), .int 0, .ref q1, .ref q3, .ref q5, .int 0, .int 0, .long 0, .long 1, .ref q7, .ref q9, .null, .null])), (q5, .inl ((C 3), 2000, .inl (fun _ => 0))), (q7, .inl ((C 1), 400, .inr (.inl (fun _ => 0)))), (q9, .inl ((C 1), 400, .inr (.inl (fun _ => 0))))] ++ (cc_w C Lk1 Gk1 ++ (cc_w C Lp4 Gp4))) H := hP
  have hD : va_D A ([(h0, .inr (5, [.int (-1), .int 0, .ref q1, .ref q3, .ref q5, .int 0, .int 0, .long 0, .long 1, .ref q7, .ref q9, .null, .null])), (q5, .inl ((C 3), 2000, .inl (fun _ => 0))), (q7, .inl ((C 1), 400, .inr (.inl (fun _ => 0)))), (q9, .inl ((C 1), 400, .inr (.inl (fun _ => 0))))] ++ (cc_w C Lk1 Gk1 ++ (cc_w C Lp4 Gp4))) := hD
  refine lv_aload_n hx hb dX5_init_83 rfl (lv_at hl 0 rfl) ?_
  refine lv_sipush (v := (400)) hx hb dX5_init_84 (by decide) ?_
  refine va_newa (atype := .int) (ty := .int) (N' := 400) (a0 := (400, .inl (fun _ => 0))) hx hb (hts (.arrayClass .int) (by decide +kernel)) rfl hK hP hD hS hA (fun cA => vp_cell_i cA 400 (fun _ => 0)) (by decide) (by decide) (by decide) (Nat.le_of_ble_eq_true rfl) (Nat.le_of_ble_eq_true rfl) dX5_init_87 (fun q11 cA12 H hK9 hP hD hS => ?_)
  have e9 := cc_cA hK9 0 rfl
  subst e9
  have hP := va_P.swap hP
  have hD := va_D.swap hD
  have hP : va_P D vwCl ([(h0, .inr (5, [.int (-1), .int 0, .ref q1, .ref q3, .ref q5, .int 0, .int 0, .long 0, .long 1, .ref q7, .ref q9, .null, .null])), (q5, .inl ((C 3), 2000, .inl (fun _ => 0))), (q7, .inl ((C 1), 400, .inr (.inl (fun _ => 0)))), (q9, .inl ((C 1), 400, .inr (.inl (fun _ => 0)))), (q11, .inl ((C 0), 400, .inl (fun _ => 0)))] ++ (cc_w C Lk1 Gk1 ++ (cc_w C Lp4 Gp4))) H := hP
  have hD : va_D A ([(h0, .inr (5, [.int (-1), .int 0, .ref q1, .ref q3, .ref q5, .int 0, .int 0, .long 0, .long 1, .ref q7, .ref q9, .null, .null])), (q5, .inl ((C 3), 2000, .inl (fun _ => 0))), (q7, .inl ((C 1), 400, .inr (.inl (fun _ => 0)))), (q9, .inl ((C 1), 400, .inr (.inl (fun _ => 0)))), (q11, .inl ((C 0), 400, .inl (fun _ => 0)))] ++ (cc_w C Lk1 Gk1 ++ (cc_w C Lp4 Gp4))) := hD
  refine W.widen (k := 44) (n := 7772) (by omega) (by omega) ?_
  refine va_putF (D := D) (ci := 5) (v := .ref q11) (ty := .array .int) (C := RX5) (T := TX5) (N := 13) hx hb hts (by decide +kernel) tyX5 tyX5_ok nmX5 hown hK hP hD hS 0 rfl rfl 11 (by decide) (hts (.fieldLink RX5 57 "HiddenMoves$Reader" "endDeedsOfA" "[I") (by decide +kernel)) (fun _ h9 => h9) rfl hin rfl (by decide +kernel) rfl rfl (Nat.le_of_ble_eq_true rfl) dX5_init_89 (fun H locs hP hD hS => ?_)
  have hP : va_P D vwCl ([(h0, .inr (5, [.int (-1), .int 0, .ref q1, .ref q3, .ref q5, .int 0, .int 0, .long 0, .long 1, .ref q7, .ref q9, .ref q11, .null])), (q5, .inl ((C 3), 2000, .inl (fun _ => 0))), (q7, .inl ((C 1), 400, .inr (.inl (fun _ => 0)))), (q9, .inl ((C 1), 400, .inr (.inl (fun _ => 0)))), (q11, .inl ((C 0), 400, .inl (fun _ => 0)))] ++ (cc_w C Lk1 Gk1 ++ (cc_w C Lp4 Gp4))) H := hP
  have hD : va_D A ([(h0, .inr (5, [.int (-1), .int 0, .ref q1, .ref q3, .ref q5, .int 0, .int 0, .long 0, .long 1, .ref q7, .ref q9, .ref q11, .null])), (q5, .inl ((C 3), 2000, .inl (fun _ => 0))), (q7, .inl ((C 1), 400, .inr (.inl (fun _ => 0)))), (q9, .inl ((C 1), 400, .inr (.inl (fun _ => 0)))), (q11, .inl ((C 0), 400, .inl (fun _ => 0)))] ++ (cc_w C Lk1 Gk1 ++ (cc_w C Lp4 Gp4))) := hD
  refine lv_aload_n hx hb dX5_init_92 rfl (lv_at hl 0 rfl) ?_
  refine lv_sipush (v := (400)) hx hb dX5_init_93 (by decide) ?_
  refine va_newa (atype := .int) (ty := .int) (N' := 400) (a0 := (400, .inl (fun _ => 0))) hx hb (hts (.arrayClass .int) (by decide +kernel)) rfl hK hP hD hS hA (fun cA => vp_cell_i cA 400 (fun _ => 0)) (by decide) (by decide) (by decide) (Nat.le_of_ble_eq_true rfl) (Nat.le_of_ble_eq_true rfl) dX5_init_96 (fun q13 cA14 H hK9 hP hD hS => ?_)
  have e9 := cc_cA hK9 0 rfl
  subst e9
  have hP := va_P.swap hP
  have hD := va_D.swap hD
  have hP : va_P D vwCl ([(h0, .inr (5, [.int (-1), .int 0, .ref q1, .ref q3, .ref q5, .int 0, .int 0, .long 0, .long 1, .ref q7, .ref q9, .ref q11, .null])), (q5, .inl ((C 3), 2000, .inl (fun _ => 0))), (q7, .inl ((C 1), 400, .inr (.inl (fun _ => 0)))), (q9, .inl ((C 1), 400, .inr (.inl (fun _ => 0)))), (q11, .inl ((C 0), 400, .inl (fun _ => 0))), (q13, .inl ((C 0), 400, .inl (fun _ => 0)))] ++ (cc_w C Lk1 Gk1 ++ (cc_w C Lp4 Gp4))) H := hP
  have hD : va_D A ([(h0, .inr (5, [.int (-1), .int 0, .ref q1, .ref q3, .ref q5, .int 0, .int 0, .long 0, .long 1, .ref q7, .ref q9, .ref q11, .null])), (q5, .inl ((C 3), 2000, .inl (fun _ => 0))), (q7, .inl ((C 1), 400, .inr (.inl (fun _ => 0)))), (q9, .inl ((C 1), 400, .inr (.inl (fun _ => 0)))), (q11, .inl ((C 0), 400, .inl (fun _ => 0))), (q13, .inl ((C 0), 400, .inl (fun _ => 0)))] ++ (cc_w C Lk1 Gk1 ++ (cc_w C Lp4 Gp4))) := hD
  refine W.widen (k := 45) (n := 8172) (by omega) (by omega) ?_
  refine va_putF (D := D) (ci := 5) (v := .ref q13) (ty := .array .int) (C := RX5) (T := TX5) (N := 13) hx hb hts (by decide +kernel) tyX5 tyX5_ok nmX5 hown hK hP hD hS 0 rfl rfl 12 (by decide) (hts (.fieldLink RX5 61 "HiddenMoves$Reader" "endDeedsOfB" "[I") (by decide +kernel)) (fun _ h9 => h9) rfl hin rfl (by decide +kernel) rfl rfl (Nat.le_of_ble_eq_true rfl) dX5_init_98 (fun H locs hP hD hS => ?_)
  have hP : va_P D vwCl ([(h0, .inr (5, [.int (-1), .int 0, .ref q1, .ref q3, .ref q5, .int 0, .int 0, .long 0, .long 1, .ref q7, .ref q9, .ref q11, .ref q13])), (q5, .inl ((C 3), 2000, .inl (fun _ => 0))), (q7, .inl ((C 1), 400, .inr (.inl (fun _ => 0)))), (q9, .inl ((C 1), 400, .inr (.inl (fun _ => 0)))), (q11, .inl ((C 0), 400, .inl (fun _ => 0))), (q13, .inl ((C 0), 400, .inl (fun _ => 0)))] ++ (cc_w C Lk1 Gk1 ++ (cc_w C Lp4 Gp4))) H := hP
  have hD : va_D A ([(h0, .inr (5, [.int (-1), .int 0, .ref q1, .ref q3, .ref q5, .int 0, .int 0, .long 0, .long 1, .ref q7, .ref q9, .ref q11, .ref q13])), (q5, .inl ((C 3), 2000, .inl (fun _ => 0))), (q7, .inl ((C 1), 400, .inr (.inl (fun _ => 0)))), (q9, .inl ((C 1), 400, .inr (.inl (fun _ => 0)))), (q11, .inl ((C 0), 400, .inl (fun _ => 0))), (q13, .inl ((C 0), 400, .inl (fun _ => 0)))] ++ (cc_w C Lk1 Gk1 ++ (cc_w C Lp4 Gp4))) := hD
  have hP := va_P.part (X := [(h0, .inr (5, [.int (-1), .int 0, .ref q1, .ref q3, .ref q5, .int 0, .int 0, .long 0, .long 1, .ref q7, .ref q9, .ref q11, .ref q13])), (q5, .inl ((C 3), 2000, .inl (fun _ => 0))), (q7, .inl ((C 1), 400, .inr (.inl (fun _ => 0)))), (q9, .inl ((C 1), 400, .inr (.inl (fun _ => 0)))), (q11, .inl ((C 0), 400, .inl (fun _ => 0))), (q13, .inl ((C 0), 400, .inl (fun _ => 0)))]) (cx := [(h0, .inr (5, [.int (-1), .int 0, .ref q1, .ref q3, .ref q5, .int 0, .int 0, .long 0, .long 1, .ref q7, .ref q9, .ref q11, .ref q13])), (q7, .inl ((C 1), 400, .inr (.inl (fun _ => 0)))), (q9, .inl ((C 1), 400, .inr (.inl (fun _ => 0)))), (q11, .inl ((C 0), 400, .inl (fun _ => 0))), (q13, .inl ((C 0), 400, .inl (fun _ => 0))), (q5, .inl ((C 3), 2000, .inl (fun _ => 0)))]) hP [0, 2, 3, 4, 5, 1] rfl
  have hD := va_D.part (X := [(h0, .inr (5, [.int (-1), .int 0, .ref q1, .ref q3, .ref q5, .int 0, .int 0, .long 0, .long 1, .ref q7, .ref q9, .ref q11, .ref q13])), (q5, .inl ((C 3), 2000, .inl (fun _ => 0))), (q7, .inl ((C 1), 400, .inr (.inl (fun _ => 0)))), (q9, .inl ((C 1), 400, .inr (.inl (fun _ => 0)))), (q11, .inl ((C 0), 400, .inl (fun _ => 0))), (q13, .inl ((C 0), 400, .inl (fun _ => 0)))]) (cx := [(h0, .inr (5, [.int (-1), .int 0, .ref q1, .ref q3, .ref q5, .int 0, .int 0, .long 0, .long 1, .ref q7, .ref q9, .ref q11, .ref q13])), (q7, .inl ((C 1), 400, .inr (.inl (fun _ => 0)))), (q9, .inl ((C 1), 400, .inr (.inl (fun _ => 0)))), (q11, .inl ((C 0), 400, .inl (fun _ => 0))), (q13, .inl ((C 0), 400, .inl (fun _ => 0))), (q5, .inl ((C 3), 2000, .inl (fun _ => 0)))]) hD [0, 2, 3, 4, 5, 1] (by decide) rfl
  obtain ⟨Lk2, Gk2, hP, hD, xk2, uk2, mk2, kk2, ak2⟩ := cc_absorbArr (X := [(h0, .inr (5, [.int (-1), .int 0, .ref q1, .ref q3, .ref q5, .int 0, .int 0, .long 0, .long 1, .ref q7, .ref q9, .ref q11, .ref q13])), (q7, .inl ((C 1), 400, .inr (.inl (fun _ => 0)))), (q9, .inl ((C 1), 400, .inr (.inl (fun _ => 0)))), (q11, .inl ((C 0), 400, .inl (fun _ => 0))), (q13, .inl ((C 0), 400, .inl (fun _ => 0)))]) (q := q5) (t := 3) (n := 2000) (e := .inl ((C 3), 2000, .inl (fun _ => 0))) (fun _ => 0) rfl hP hD uk1 (h0, 4) (fun i => ⟨fun _ => by decide, fun _ => by decide, fun _ => by decide, fun _ => Or.inl rfl⟩)
  have hP : va_P D vwCl ([(h0, .inr (5, [.int (-1), .int 0, .ref q1, .ref q3, .ref q5, .int 0, .int 0, .long 0, .long 1, .ref q7, .ref q9, .ref q11, .ref q13])), (q7, .inl ((C 1), 400, .inr (.inl (fun _ => 0)))), (q9, .inl ((C 1), 400, .inr (.inl (fun _ => 0)))), (q11, .inl ((C 0), 400, .inl (fun _ => 0))), (q13, .inl ((C 0), 400, .inl (fun _ => 0)))] ++ (cc_w C Lk2 Gk2 ++ (cc_w C Lp4 Gp4))) H := hP
  have hD : va_D A ([(h0, .inr (5, [.int (-1), .int 0, .ref q1, .ref q3, .ref q5, .int 0, .int 0, .long 0, .long 1, .ref q7, .ref q9, .ref q11, .ref q13])), (q7, .inl ((C 1), 400, .inr (.inl (fun _ => 0)))), (q9, .inl ((C 1), 400, .inr (.inl (fun _ => 0)))), (q11, .inl ((C 0), 400, .inl (fun _ => 0))), (q13, .inl ((C 0), 400, .inl (fun _ => 0)))] ++ (cc_w C Lk2 Gk2 ++ (cc_w C Lp4 Gp4))) := hD
  have hP := va_P.part (X := [(h0, .inr (5, [.int (-1), .int 0, .ref q1, .ref q3, .ref q5, .int 0, .int 0, .long 0, .long 1, .ref q7, .ref q9, .ref q11, .ref q13])), (q7, .inl ((C 1), 400, .inr (.inl (fun _ => 0)))), (q9, .inl ((C 1), 400, .inr (.inl (fun _ => 0)))), (q11, .inl ((C 0), 400, .inl (fun _ => 0))), (q13, .inl ((C 0), 400, .inl (fun _ => 0)))]) (cx := [(h0, .inr (5, [.int (-1), .int 0, .ref q1, .ref q3, .ref q5, .int 0, .int 0, .long 0, .long 1, .ref q7, .ref q9, .ref q11, .ref q13])), (q9, .inl ((C 1), 400, .inr (.inl (fun _ => 0)))), (q11, .inl ((C 0), 400, .inl (fun _ => 0))), (q13, .inl ((C 0), 400, .inl (fun _ => 0))), (q7, .inl ((C 1), 400, .inr (.inl (fun _ => 0))))]) hP [0, 2, 3, 4, 1] rfl
  have hD := va_D.part (X := [(h0, .inr (5, [.int (-1), .int 0, .ref q1, .ref q3, .ref q5, .int 0, .int 0, .long 0, .long 1, .ref q7, .ref q9, .ref q11, .ref q13])), (q7, .inl ((C 1), 400, .inr (.inl (fun _ => 0)))), (q9, .inl ((C 1), 400, .inr (.inl (fun _ => 0)))), (q11, .inl ((C 0), 400, .inl (fun _ => 0))), (q13, .inl ((C 0), 400, .inl (fun _ => 0)))]) (cx := [(h0, .inr (5, [.int (-1), .int 0, .ref q1, .ref q3, .ref q5, .int 0, .int 0, .long 0, .long 1, .ref q7, .ref q9, .ref q11, .ref q13])), (q9, .inl ((C 1), 400, .inr (.inl (fun _ => 0)))), (q11, .inl ((C 0), 400, .inl (fun _ => 0))), (q13, .inl ((C 0), 400, .inl (fun _ => 0))), (q7, .inl ((C 1), 400, .inr (.inl (fun _ => 0))))]) hD [0, 2, 3, 4, 1] (by decide) rfl
  obtain ⟨Lk3, Gk3, hP, hD, xk3, uk3, mk3, kk3, ak3⟩ := cc_absorbArr (X := [(h0, .inr (5, [.int (-1), .int 0, .ref q1, .ref q3, .ref q5, .int 0, .int 0, .long 0, .long 1, .ref q7, .ref q9, .ref q11, .ref q13])), (q9, .inl ((C 1), 400, .inr (.inl (fun _ => 0)))), (q11, .inl ((C 0), 400, .inl (fun _ => 0))), (q13, .inl ((C 0), 400, .inl (fun _ => 0)))]) (q := q7) (t := 1) (n := 400) (e := .inl ((C 1), 400, .inr (.inl (fun _ => 0)))) (fun _ => 0) rfl hP hD uk2 (h0, 9) (fun i => ⟨fun _ => by decide, fun _ => by decide, fun _ => by decide, fun _ => Or.inl rfl⟩)
  have hP : va_P D vwCl ([(h0, .inr (5, [.int (-1), .int 0, .ref q1, .ref q3, .ref q5, .int 0, .int 0, .long 0, .long 1, .ref q7, .ref q9, .ref q11, .ref q13])), (q9, .inl ((C 1), 400, .inr (.inl (fun _ => 0)))), (q11, .inl ((C 0), 400, .inl (fun _ => 0))), (q13, .inl ((C 0), 400, .inl (fun _ => 0)))] ++ (cc_w C Lk3 Gk3 ++ (cc_w C Lp4 Gp4))) H := hP
  have hD : va_D A ([(h0, .inr (5, [.int (-1), .int 0, .ref q1, .ref q3, .ref q5, .int 0, .int 0, .long 0, .long 1, .ref q7, .ref q9, .ref q11, .ref q13])), (q9, .inl ((C 1), 400, .inr (.inl (fun _ => 0)))), (q11, .inl ((C 0), 400, .inl (fun _ => 0))), (q13, .inl ((C 0), 400, .inl (fun _ => 0)))] ++ (cc_w C Lk3 Gk3 ++ (cc_w C Lp4 Gp4))) := hD
  have hP := va_P.part (X := [(h0, .inr (5, [.int (-1), .int 0, .ref q1, .ref q3, .ref q5, .int 0, .int 0, .long 0, .long 1, .ref q7, .ref q9, .ref q11, .ref q13])), (q9, .inl ((C 1), 400, .inr (.inl (fun _ => 0)))), (q11, .inl ((C 0), 400, .inl (fun _ => 0))), (q13, .inl ((C 0), 400, .inl (fun _ => 0)))]) (cx := [(h0, .inr (5, [.int (-1), .int 0, .ref q1, .ref q3, .ref q5, .int 0, .int 0, .long 0, .long 1, .ref q7, .ref q9, .ref q11, .ref q13])), (q11, .inl ((C 0), 400, .inl (fun _ => 0))), (q13, .inl ((C 0), 400, .inl (fun _ => 0))), (q9, .inl ((C 1), 400, .inr (.inl (fun _ => 0))))]) hP [0, 2, 3, 1] rfl
  have hD := va_D.part (X := [(h0, .inr (5, [.int (-1), .int 0, .ref q1, .ref q3, .ref q5, .int 0, .int 0, .long 0, .long 1, .ref q7, .ref q9, .ref q11, .ref q13])), (q9, .inl ((C 1), 400, .inr (.inl (fun _ => 0)))), (q11, .inl ((C 0), 400, .inl (fun _ => 0))), (q13, .inl ((C 0), 400, .inl (fun _ => 0)))]) (cx := [(h0, .inr (5, [.int (-1), .int 0, .ref q1, .ref q3, .ref q5, .int 0, .int 0, .long 0, .long 1, .ref q7, .ref q9, .ref q11, .ref q13])), (q11, .inl ((C 0), 400, .inl (fun _ => 0))), (q13, .inl ((C 0), 400, .inl (fun _ => 0))), (q9, .inl ((C 1), 400, .inr (.inl (fun _ => 0))))]) hD [0, 2, 3, 1] (by decide) rfl
  obtain ⟨Lk4, Gk4, hP, hD, xk4, uk4, mk4, kk4, ak4⟩ := cc_absorbArr (X := [(h0, .inr (5, [.int (-1), .int 0, .ref q1, .ref q3, .ref q5, .int 0, .int 0, .long 0, .long 1, .ref q7, .ref q9, .ref q11, .ref q13])), (q11, .inl ((C 0), 400, .inl (fun _ => 0))), (q13, .inl ((C 0), 400, .inl (fun _ => 0)))]) (q := q9) (t := 1) (n := 400) (e := .inl ((C 1), 400, .inr (.inl (fun _ => 0)))) (fun _ => 0) rfl hP hD uk3 (h0, 10) (fun i => ⟨fun _ => by decide, fun _ => by decide, fun _ => by decide, fun _ => Or.inl rfl⟩)
  have hP : va_P D vwCl ([(h0, .inr (5, [.int (-1), .int 0, .ref q1, .ref q3, .ref q5, .int 0, .int 0, .long 0, .long 1, .ref q7, .ref q9, .ref q11, .ref q13])), (q11, .inl ((C 0), 400, .inl (fun _ => 0))), (q13, .inl ((C 0), 400, .inl (fun _ => 0)))] ++ (cc_w C Lk4 Gk4 ++ (cc_w C Lp4 Gp4))) H := hP
  have hD : va_D A ([(h0, .inr (5, [.int (-1), .int 0, .ref q1, .ref q3, .ref q5, .int 0, .int 0, .long 0, .long 1, .ref q7, .ref q9, .ref q11, .ref q13])), (q11, .inl ((C 0), 400, .inl (fun _ => 0))), (q13, .inl ((C 0), 400, .inl (fun _ => 0)))] ++ (cc_w C Lk4 Gk4 ++ (cc_w C Lp4 Gp4))) := hD
  have hP := va_P.part (X := [(h0, .inr (5, [.int (-1), .int 0, .ref q1, .ref q3, .ref q5, .int 0, .int 0, .long 0, .long 1, .ref q7, .ref q9, .ref q11, .ref q13])), (q11, .inl ((C 0), 400, .inl (fun _ => 0))), (q13, .inl ((C 0), 400, .inl (fun _ => 0)))]) (cx := [(h0, .inr (5, [.int (-1), .int 0, .ref q1, .ref q3, .ref q5, .int 0, .int 0, .long 0, .long 1, .ref q7, .ref q9, .ref q11, .ref q13])), (q13, .inl ((C 0), 400, .inl (fun _ => 0))), (q11, .inl ((C 0), 400, .inl (fun _ => 0)))]) hP [0, 2, 1] rfl
  have hD := va_D.part (X := [(h0, .inr (5, [.int (-1), .int 0, .ref q1, .ref q3, .ref q5, .int 0, .int 0, .long 0, .long 1, .ref q7, .ref q9, .ref q11, .ref q13])), (q11, .inl ((C 0), 400, .inl (fun _ => 0))), (q13, .inl ((C 0), 400, .inl (fun _ => 0)))]) (cx := [(h0, .inr (5, [.int (-1), .int 0, .ref q1, .ref q3, .ref q5, .int 0, .int 0, .long 0, .long 1, .ref q7, .ref q9, .ref q11, .ref q13])), (q13, .inl ((C 0), 400, .inl (fun _ => 0))), (q11, .inl ((C 0), 400, .inl (fun _ => 0)))]) hD [0, 2, 1] (by decide) rfl
  obtain ⟨Lk5, Gk5, hP, hD, xk5, uk5, mk5, kk5, ak5⟩ := cc_absorbArr (X := [(h0, .inr (5, [.int (-1), .int 0, .ref q1, .ref q3, .ref q5, .int 0, .int 0, .long 0, .long 1, .ref q7, .ref q9, .ref q11, .ref q13])), (q13, .inl ((C 0), 400, .inl (fun _ => 0)))]) (q := q11) (t := 0) (n := 400) (e := .inl ((C 0), 400, .inl (fun _ => 0))) (fun _ => 0) rfl hP hD uk4 (h0, 11) (fun i => ⟨fun _ => by decide, fun _ => by decide, fun _ => by decide, fun _ => Or.inl rfl⟩)
  have hP : va_P D vwCl ([(h0, .inr (5, [.int (-1), .int 0, .ref q1, .ref q3, .ref q5, .int 0, .int 0, .long 0, .long 1, .ref q7, .ref q9, .ref q11, .ref q13])), (q13, .inl ((C 0), 400, .inl (fun _ => 0)))] ++ (cc_w C Lk5 Gk5 ++ (cc_w C Lp4 Gp4))) H := hP
  have hD : va_D A ([(h0, .inr (5, [.int (-1), .int 0, .ref q1, .ref q3, .ref q5, .int 0, .int 0, .long 0, .long 1, .ref q7, .ref q9, .ref q11, .ref q13])), (q13, .inl ((C 0), 400, .inl (fun _ => 0)))] ++ (cc_w C Lk5 Gk5 ++ (cc_w C Lp4 Gp4))) := hD
  obtain ⟨Lk6, Gk6, hP, hD, xk6, uk6, mk6, kk6, ak6⟩ := cc_absorbArr (X := [(h0, .inr (5, [.int (-1), .int 0, .ref q1, .ref q3, .ref q5, .int 0, .int 0, .long 0, .long 1, .ref q7, .ref q9, .ref q11, .ref q13]))]) (q := q13) (t := 0) (n := 400) (e := .inl ((C 0), 400, .inl (fun _ => 0))) (fun _ => 0) rfl hP hD uk5 (h0, 12) (fun i => ⟨fun _ => by decide, fun _ => by decide, fun _ => by decide, fun _ => Or.inl rfl⟩)
  have hP : va_P D vwCl ([(h0, .inr (5, [.int (-1), .int 0, .ref q1, .ref q3, .ref q5, .int 0, .int 0, .long 0, .long 1, .ref q7, .ref q9, .ref q11, .ref q13]))] ++ (cc_w C Lk6 Gk6 ++ (cc_w C Lp4 Gp4))) H := hP
  have hD : va_D A ([(h0, .inr (5, [.int (-1), .int 0, .ref q1, .ref q3, .ref q5, .int 0, .int 0, .long 0, .long 1, .ref q7, .ref q9, .ref q11, .ref q13]))] ++ (cc_w C Lk6 Gk6 ++ (cc_w C Lp4 Gp4))) := hD
  obtain ⟨Gf, hP, hD, nf, eG, xf⟩ := cc_absorb (X := []) (q := h0) (e := .inr (5, [.int (-1), .int 0, .ref q1, .ref q3, .ref q5, .int 0, .int 0, .long 0, .long 1, .ref q7, .ref q9, .ref q11, .ref q13])) (e' := .inr (5, [.int (-1), .int 0, .ref q1, .ref q3, .ref q5, .int 0, .int 0, .long 0, .long 1, .ref q7, .ref q9, .ref q11, .ref q13])) (.inl 5) (fun j => ([(-1), 0, 0, 0, 0, 0, 0, 0, 1, 0, 0, 0, 0] : List Int).getD j 0) (fun j => ([0, 0, q1, q3, q5, 0, 0, 0, 0, q7, q9, q11, q13] : List Nat).getD j 0) (fun _ => 0) rfl (fun h => h) hP hD
  have fr : ∀ j : Nat, gr Gf h0 j = (fun j => ([0, 0, q1, q3, q5, 0, 0, 0, 0, q7, q9, q11, q13] : List Nat).getD j 0) j := fun j => congrFun (congrArg (fun x : cG => x.2.2.1) eG) j
  have fz : ∀ j : Nat, gz Gf h0 j = (fun j => ([(-1), 0, 0, 0, 0, 0, 0, 0, 1, 0, 0, 0, 0] : List Int).getD j 0) j := fun j => congrFun (congrArg (fun x : cG => x.2.1) eG) j
  have fk : gK Gf h0 = .inl 5 := congrArg (fun x : cG => x.1) eG
  have hO : cw_O (h0 :: Lk6) (gK Gf) 5 h0 := ⟨List.mem_cons_self, fk⟩
  have hU : cc_U (h0 :: Lk6) Gf (fun b o => ∃ k, (k = 4 ∨ k = 9 ∨ k = 10 ∨ k = 11 ∨ k = 12) ∧ b = gr Gf h0 k ∧ o = (h0, k)) := cc_U_imp (cc_U_obj uk6 nf xf (0, 0) fk (fun F f1 fρ hd => True.intro)) (fun b o hb => by
    obtain ⟨k, hk, e1, e2⟩ := hb
    rcases hk with rfl | rfl | rfl | rfl | rfl
    · exact Or.inr (Or.inr (Or.inr (Or.inr (Or.inr (Or.inl ⟨e1.trans (fr 4), e2⟩)))))
    · exact Or.inr (Or.inr (Or.inr (Or.inr (Or.inl ⟨e1.trans (fr 9), e2⟩))))
    · exact Or.inr (Or.inr (Or.inr (Or.inl ⟨e1.trans (fr 10), e2⟩)))
    · exact Or.inr (Or.inr (Or.inl ⟨e1.trans (fr 11), e2⟩))
    · exact Or.inr (Or.inl ⟨e1.trans (fr 12), e2⟩))
  have a4 : cc_K (h0 :: Lk6) Gf 3 2000 (gr Gf h0 4) := by
    rw [show gr Gf h0 4 = q5 from fr 4]
    exact cx_K (cx_t (cx_t xk3 (cx_t xk4 (cx_t xk5 xk6))) xf) ⟨mk2, kk2⟩
  have a9 : cc_K (h0 :: Lk6) Gf 1 400 (gr Gf h0 9) := by
    rw [show gr Gf h0 9 = q7 from fr 9]
    exact cx_K (cx_t (cx_t xk4 (cx_t xk5 xk6)) xf) ⟨mk3, kk3⟩
  have a10 : cc_K (h0 :: Lk6) Gf 1 400 (gr Gf h0 10) := by
    rw [show gr Gf h0 10 = q9 from fr 10]
    exact cx_K (cx_t (cx_t xk5 xk6) xf) ⟨mk4, kk4⟩
  have a11 : cc_K (h0 :: Lk6) Gf 0 400 (gr Gf h0 11) := by
    rw [show gr Gf h0 11 = q11 from fr 11]
    exact cx_K (cx_t xk6 xf) ⟨mk5, kk5⟩
  have a12 : cc_K (h0 :: Lk6) Gf 0 400 (gr Gf h0 12) := by
    rw [show gr Gf h0 12 = q13 from fr 12]
    exact cx_K (cx_t (cx_r _ _) xf) ⟨mk6, kk6⟩
  have hT : cl_T (h0 :: Lk6) (gK Gf) (gr Gf) (gz Gf) (gA Gf) (gr Gf h0 2) ∧ gz Gf (gr Gf h0 2) 1 = 0 := by
    rw [show gr Gf h0 2 = q1 from fr 2]
    exact ⟨cx_T (cx_t pk1 (cx_t (cx_t xk2 (cx_t xk3 (cx_t xk4 (cx_t xk5 xk6)))) xf)) hT2, (congrFun (gz_e (cx_t pk1 (cx_t (cx_t xk2 (cx_t xk3 (cx_t xk4 (cx_t xk5 xk6)))) xf)) hT2.1.1) 1).trans hz2⟩
  have hg : cc_R Lp4 Gp4 2 (gr Gf h0 3) := by
    rw [show gr Gf h0 3 = q3 from fr 3]
    exact hR4
  rw [List.nil_append] at hP hD
  refine W.widen (k := 45) (n := 8172) (by omega) (by omega) ?_
  exact W.vret hx hb hr (fun t ht hW => ⟨⟨(), rfl, trivial, _, _, _, _, ⟨hO, hU, ⟨a4, a9, a10, a11, a12⟩, hT, hg⟩, by rw [ht]; exact hP, va_K.moved hW.alike hK, hD⟩, hS.F ht⟩) hS.2.2 dX5_init_101
