set_option maxHeartbeats 4000000 in
set_option maxRecDepth 100000 in
/-- Mix() -/
theorem n_X3_init (l : Launch) (D : va_G) (C : Nat → ClassId) (h0 sz : Nat) : Met l yX3_init wsX3_init ({ frames := 2, cells := 43, slots := 755, locals := 33 }) (va_Pc [.ref h0] (hm_P D [(h0, .inr (3, [.null, .null]))] (cw_t C) sz)) (va_Qv (fun _ : Unit => True) (fun _ t => ∃ (L : List Nat) (G : Nat → cG), cc_R L G 3 h0 ∧ hm_B D (va_A [(h0, .inr (3, [.null, .null]))] sz) (cc_w C L G) (cw_t C) t) (va_A [(h0, .inr (3, [.null, .null]))] sz)) 43 755 (va_A [(h0, .inr (3, [.null, .null]))] sz) := by
  refine Met.ofW (cc := cX3_init) (maxL := 2) (ret := none) (by decide) rfl ?_
  intro p e s m args below meth c s₁ B hml hv
  obtain ⟨rfl, hsz, hP, hK, hD0, hE⟩ := hv
  have hx := B.exec
  have hb := B.bytes
  have hr := B.returns
  have hts := atoms_spec (ws := wsX3_init) B.pre
  have hown : s.vm.findClass RX3 = some m.cls := findClass_of_methodNamed B.named
  have hlocks := B.notSynchronized
  have hin : meth.name = "<init>" := (name_of_methodNamed B.named B.method).1
  subst hsz
  have hD := hD0.self (sz := s.heap.size)
  generalize hAe : va_A [(h0, .inr (3, [.null, .null]))] s.heap.size = A at hD ⊢
  have hA : ∀ q : Nat, s.heap.size ≤ q → A q := fun q h => by rw [← hAe]; exact Or.inr h
  have hS : va_S A s.heap s.heap [] := va_S.rf
  have hP : va_P D vwCl [(h0, .inr (3, [.null, .null]))] s.heap := hP
  have hl := lv_entry ([.ref h0]) (n := 2) (Nat.le_of_ble_eq_true rfl)
  rw [lg_entry_eq]
  generalize (lg_sl ([.ref h0]) ++ List.replicate (2 - (lg_sl ([.ref h0])).length) Slot.unset).toArray = ls at hl ⊢
  have hl : lv_has ls 2 [(0, .ref h0)] := hl
  obtain ⟨G0, -⟩ : ∃ G : Nat → cG, True := ⟨fun _ => (.inl 0, fun _ => 0, fun _ => 0, fun _ => 0), trivial⟩
  have hU0 := cc_U_nil G0
  have hP : va_P D vwCl (([(h0, .inr (3, [.null, .null]))] : va_W) ++ (cc_w C [] G0 ++ ([] : va_W))) s.heap := hP
  have hD : va_D A (([(h0, .inr (3, [.null, .null]))] : va_W) ++ (cc_w C [] G0 ++ ([] : va_W))) := hD
  refine lv_aload_n hx hb dX3_init_0 rfl (lv_at hl 0 rfl) ?_
  refine W.objInit hx hb hown (hts (.methodLink RX3 3 objectInit) (List.mem_cons_of_mem _ (List.mem_append_left _ (List.mem_append_left _ (List.mem_of_getElem? (i := 0) rfl))))) (hts (.instanceMethod objectInit) (List.mem_cons_of_mem _ (List.mem_append_left _ (List.mem_append_left _ (List.mem_of_getElem? (i := 1) rfl))))) (hts _ (List.mem_of_getElem? (i := 3) rfl)) rfl (by rw [hml]; exact hl.1) rfl dX3_init_1 (Nat.le_of_ble_eq_true rfl) (Nat.le_of_ble_eq_true rfl) ?_
  refine W.eq (g2 := F0 m 4 ls []) rfl ?_
  refine lv_aload_n hx hb dX3_init_4 rfl (lv_at hl 0 rfl) ?_
  refine lv_bipush (v := (20)) hx hb dX3_init_5 (by decide) ?_
  refine va_newq (N' := 20) hx hb hown (hts (.classLink RX3 9 RX0) (List.mem_cons_of_mem _ (List.mem_append_left _ (List.mem_append_left _ (List.mem_of_getElem? (i := 3) rfl))))) hE.ao_RX0 hK hP hD hS hA (by decide) (by decide) (by decide) (Nat.le_of_ble_eq_true rfl) (Nat.le_of_ble_eq_true rfl) dX3_init_7 (fun q1 cA2 H hK9 hP hD hS => ?_)
  have e9 := cc_cA hK9 4 rfl
  subst e9
  have hP := va_P.swap hP
  have hD := va_D.swap hD
  have hP : va_P D vwCl (([(h0, .inr (3, [.null, .null])), (q1, .inl ((C 4), 20, .inr (.inr (.inr (.inr (fun _ => none))))))] : va_W) ++ (cc_w C [] G0 ++ ([] : va_W))) H := hP
  have hD : va_D A (([(h0, .inr (3, [.null, .null])), (q1, .inl ((C 4), 20, .inr (.inr (.inr (.inr (fun _ => none))))))] : va_W) ++ (cc_w C [] G0 ++ ([] : va_W))) := hD
  refine W.widen (k := 1) (n := 20) (by omega) (by omega) ?_
  refine va_putF (D := D) (ci := 3) (v := .ref q1) (ty := .array (.object "HiddenMoves$Big")) (C := RX3) (T := TX3) (N := 2) hx hb hts (fun w h => List.mem_cons_of_mem _ (List.mem_append_left _ (List.mem_append_right _ (h)))) tyX3 tyX3_ok nmX3 hown hK hP hD hS 0 rfl rfl 0 (by decide) (hts (.fieldLink RX3 11 "HiddenMoves$Mix" "parts" "[LHiddenMoves$Big;") (List.mem_cons_of_mem _ (List.mem_append_left _ (List.mem_append_left _ (List.mem_of_getElem? (i := 4) rfl))))) (fun _ h9 => h9) rfl hin rfl (by decide +kernel) rfl rfl (Nat.le_of_ble_eq_true rfl) dX3_init_10 (fun H locs hP hD hS => ?_)
  have hP : va_P D vwCl (([(h0, .inr (3, [.ref q1, .null])), (q1, .inl ((C 4), 20, .inr (.inr (.inr (.inr (fun _ => none))))))] : va_W) ++ (cc_w C [] G0 ++ ([] : va_W))) H := hP
  have hD : va_D A (([(h0, .inr (3, [.ref q1, .null])), (q1, .inl ((C 4), 20, .inr (.inr (.inr (.inr (fun _ => none))))))] : va_W) ++ (cc_w C [] G0 ++ ([] : va_W))) := hD
  refine lv_aload_n hx hb dX3_init_13 rfl (lv_at hl 0 rfl) ?_
  refine va_new (ci := 0) (fs := [.null, .int 0, .int 0]) (C := RX0) (T := TX0) (N := 3) hx hb hts (fun w h => List.mem_cons_of_mem _ (List.mem_append_right _ (h))) tyX0 tyX0_ok hown (hts (.classLink RX3 9 RX0) (List.mem_cons_of_mem _ (List.mem_append_left _ (List.mem_append_left _ (List.mem_of_getElem? (i := 3) rfl))))) (hts (.instantiable RX0 3) (List.mem_cons_of_mem _ (List.mem_append_left _ (List.mem_append_left _ (List.mem_of_getElem? (i := 5) rfl))))) (hts (.initialized RX0) (List.mem_cons_of_mem _ (List.mem_append_left _ (List.mem_append_left _ (List.mem_of_getElem? (i := 6) rfl))))) hK hP hD hS hA rfl (fun j hj => by rcases (show j = 0 ∨ j = 1 ∨ j = 2 by omega) with rfl | rfl | rfl <;> rfl) (Nat.le_of_ble_eq_true rfl) (Nat.le_of_ble_eq_true rfl) dX3_init_14 (fun q3 H hP hD hS => ?_)
  have hP := va_P.swap hP
  have hD := va_D.swap hD
  have hP : va_P D vwCl (([(h0, .inr (3, [.ref q1, .null])), (q1, .inl ((C 4), 20, .inr (.inr (.inr (.inr (fun _ => none)))))), (q3, .inr (0, [.null, .int 0, .int 0]))] : va_W) ++ (cc_w C [] G0 ++ ([] : va_W))) H := hP
  have hD : va_D A (([(h0, .inr (3, [.ref q1, .null])), (q1, .inl ((C 4), 20, .inr (.inr (.inr (.inr (fun _ => none)))))), (q3, .inr (0, [.null, .int 0, .int 0]))] : va_W) ++ (cc_w C [] G0 ++ ([] : va_W))) := hD
  refine W.widen (k := 2) (n := 23) (by omega) (by omega) ?_
  refine lv_dup hx hb dX3_init_17 rfl ?_
  refine lv_bipush (v := (32)) hx hb dX3_init_18 (by decide) ?_
  have hPc := hP.sub (ws' := [(q3, .inr (0, [.null, .int 0, .int 0]))]) [2] rfl
  have hDc := hD.sub (ws' := [(q3, .inr (0, [.null, .int 0, .int 0]))]) [2] (by decide) rfl
  have hFc := va_free (wc := [(q3, .inr (0, [.null, .int 0, .int 0]))]) hD hS hA [2] rfl
  refine va_callv (va_runI (As := [.int 32]) (rest := [.ref q3, .ref h0]) ⟨hx, hb, hml, hown, hts⟩ (n_X0_init_32 l D C q3 _) (cwI 1 hts gX3_init_X0_init rfl rfl rfl (hts (.initialized RX0) (List.mem_cons_of_mem _ (List.mem_append_left _ (List.mem_append_left _ (List.mem_of_getElem? (i := 6) rfl))))) (hts (.methodLink RX3 17 yX0_init) (List.mem_cons_of_mem _ (List.mem_append_left _ (List.mem_append_left _ (List.mem_of_getElem? (i := 8) rfl))))) (hts (.instanceMethod yX0_init) (List.mem_cons_of_mem _ (List.mem_append_left _ (List.mem_append_left _ (List.mem_of_getElem? (i := 9) rfl))))) rfl (by decide +kernel) ⟨Nat.le_of_ble_eq_true rfl, Nat.le_of_ble_eq_true rfl⟩) ⟨hm_blind, hm_pre hPc hK hDc hE⟩ rfl rfl hl.1 rfl (lv_room (Nat.le_of_ble_eq_true rfl)) dX3_init_20 ⟨(Nat.le_of_ble_eq_true rfl), (Nat.le_of_ble_eq_true rfl)⟩) hS (fun q _ h => hFc q h) hFc (fun u t H1 locs ht hvm hw hB hz1 hk1 hS => ?_)
  obtain ⟨q4, hP1, hK1, hD1⟩ := hB
  rw [ht] at hP1
  obtain ⟨hP, hD⟩ := va_joinQ (X := [(h0, .inr (3, [.ref q1, .null])), (q1, .inl ((C 4), 20, .inr (.inr (.inr (.inr (fun _ => none)))))), (q3, .inr (0, [.null, .int 0, .int 0]))]) (cx := [(q3, .inr (0, [.null, .int 0, .int 0]))]) (wr := [(h0, .inr (3, [.ref q1, .null])), (q1, .inl ((C 4), 20, .inr (.inr (.inr (.inr (fun _ => none))))))]) (w1 := [(q3, .inr (0, [.ref q4, .int 0, .int 0])), (q4, .inl ((C 0), 32, .inl (fun _ => 0)))]) (pl := (cc_w C [] G0 ++ ([] : va_W))) hP hD [2] [0, 1] rfl rfl (by decide) (by decide) hk1 hFc hP1 hD1
  generalize H1 = H at hP hS ⊢
  have hP : va_P D vwCl (([(h0, .inr (3, [.ref q1, .null])), (q1, .inl ((C 4), 20, .inr (.inr (.inr (.inr (fun _ => none)))))), (q3, .inr (0, [.ref q4, .int 0, .int 0])), (q4, .inl ((C 0), 32, .inl (fun _ => 0)))] : va_W) ++ (cc_w C [] G0 ++ ([] : va_W))) H := hP
  have hD : va_D A (([(h0, .inr (3, [.ref q1, .null])), (q1, .inl ((C 4), 20, .inr (.inr (.inr (.inr (fun _ => none)))))), (q3, .inr (0, [.ref q4, .int 0, .int 0])), (q4, .inl ((C 0), 32, .inl (fun _ => 0)))] : va_W) ++ (cc_w C [] G0 ++ ([] : va_W))) := hD
  refine W.widen (k := 3) (n := 55) (by omega) (by omega) ?_
  refine va_putF (D := D) (ci := 3) (v := .ref q3) (ty := .object "HiddenMoves$Big") (C := RX3) (T := TX3) (N := 2) hx hb hts (fun w h => List.mem_cons_of_mem _ (List.mem_append_left _ (List.mem_append_right _ (h)))) tyX3 tyX3_ok nmX3 hown hK hP hD hS 0 rfl rfl 1 (by decide) (hts (.fieldLink RX3 20 "HiddenMoves$Mix" "sum" "LHiddenMoves$Big;") (List.mem_cons_of_mem _ (List.mem_append_left _ (List.mem_append_left _ (List.mem_of_getElem? (i := 7) rfl))))) (fun _ h9 => h9) rfl hin rfl (by decide +kernel) rfl rfl (Nat.le_of_ble_eq_true rfl) dX3_init_23 (fun H locs hP hD hS => ?_)
  have hP : va_P D vwCl (([(h0, .inr (3, [.ref q1, .ref q3])), (q1, .inl ((C 4), 20, .inr (.inr (.inr (.inr (fun _ => none)))))), (q3, .inr (0, [.ref q4, .int 0, .int 0])), (q4, .inl ((C 0), 32, .inl (fun _ => 0)))] : va_W) ++ (cc_w C [] G0 ++ ([] : va_W))) H := hP
  have hD : va_D A (([(h0, .inr (3, [.ref q1, .ref q3])), (q1, .inl ((C 4), 20, .inr (.inr (.inr (.inr (fun _ => none)))))), (q3, .inr (0, [.ref q4, .int 0, .int 0])), (q4, .inl ((C 0), 32, .inl (fun _ => 0)))] : va_W) ++ (cc_w C [] G0 ++ ([] : va_W))) := hD
  obtain ⟨Lk1, Gk1, hP, hD, xk1, uk1, bk1⟩ := cc_absorbBig (X := [(h0, .inr (3, [.ref q1, .ref q3])), (q1, .inl ((C 4), 20, .inr (.inr (.inr (.inr (fun _ => none))))))]) (b := q3) (d := q4) (n := 32) hP hD hU0 (by decide) (h0, 1)
  have hP : va_P D vwCl (([(h0, .inr (3, [.ref q1, .ref q3])), (q1, .inl ((C 4), 20, .inr (.inr (.inr (.inr (fun _ => none))))))] : va_W) ++ (cc_w C Lk1 Gk1 ++ ([] : va_W))) H := hP
  have hD : va_D A (([(h0, .inr (3, [.ref q1, .ref q3])), (q1, .inl ((C 4), 20, .inr (.inr (.inr (.inr (fun _ => none))))))] : va_W) ++ (cc_w C Lk1 Gk1 ++ ([] : va_W))) := hD
  refine lv_iconst (v := 0) hx hb dX3_init_26 (by decide) ?_
  refine lv_istore_n (lv' := [(1, .int 0), (0, .ref h0)]) hx hb dX3_init_27 rfl hl (by decide) rfl (fun ls hl => ?_)
  rw [cc_f0 (fun _ => 0)] at hP hD
  have hP : va_P D vwCl (([(h0, .inr (3, [.ref q1, .ref q3])), (q1, .inl ((C 4), 20, .inr (.inr (.inr (.inr (cc_f 0 (fun _ => 0)))))))] : va_W) ++ (cc_w C Lk1 Gk1 ++ ([] : va_W))) H := hP
  have hD : va_D A (([(h0, .inr (3, [.ref q1, .ref q3])), (q1, .inl ((C 4), 20, .inr (.inr (.inr (.inr (cc_f 0 (fun _ => 0)))))))] : va_W) ++ (cc_w C Lk1 Gk1 ++ ([] : va_W))) := hD
  obtain ⟨Os, eOs⟩ : ∃ P : Nat → Nat × Nat → Prop, P = fun b o => (b = q3 ∧ o = (h0, 1)) ∨ False := ⟨_, rfl⟩
  have us : cc_U Lk1 Gk1 Os := cc_U_imp uk1 (fun b o hb => by rw [eOs] at hb; exact hb)
  refine hm_loop (σ := (Nat → Nat) × List Nat × (Nat → cG)) 20 (fun i x H locs ls => va_P D vwCl (([(h0, .inr (3, [.ref q1, .ref q3])), (q1, .inl ((C 4), 20, .inr (.inr (.inr (.inr (cc_f i x.1))))))] : va_W) ++ (cc_w C x.2.1 x.2.2 ++ ([] : va_W))) H ∧ va_D A (([(h0, .inr (3, [.ref q1, .ref q3])), (q1, .inl ((C 4), 20, .inr (.inr (.inr (.inr (cc_f i x.1))))))] : va_W) ++ (cc_w C x.2.1 x.2.2 ++ ([] : va_W))) ∧ va_S A s.heap H locs ∧ lv_has ls 2 [(1, .int (nI i)), (0, .ref h0)] ∧ cx Lk1 Gk1 x.2.1 x.2.2 ∧ cc_U x.2.1 x.2.2 (fun b o => Os b o ∨ ∃ j, j < i ∧ b = x.1 j ∧ o = (q1, j)) ∧ ∀ j, j < i → cc_B x.2.1 x.2.2 32 (x.1 j)) (fun i => 3 + 2 * i) (fun i => 55 + 35 * i) 28 ?_ ?_ (fun _ => 0, Lk1, Gk1) ⟨hP, hD, hS, hl, cx_r _ _, cc_U_imp us (fun b o hb => hb.resolve_right (fun ⟨j, hj, _⟩ => by omega)), fun j hj => by omega⟩
  · intro x H locs ls hI
    obtain ⟨g, Lx, Gx⟩ := x
    obtain ⟨hP, hD, hS, hl, xx, ux, bx⟩ := hI
    have hP : va_P D vwCl (([(h0, .inr (3, [.ref q1, .ref q3])), (q1, .inl ((C 4), 20, .inr (.inr (.inr (.inr (cc_f 20 g))))))] : va_W) ++ (cc_w C Lx Gx ++ ([] : va_W))) H := hP
    have hD : va_D A (([(h0, .inr (3, [.ref q1, .ref q3])), (q1, .inl ((C 4), 20, .inr (.inr (.inr (.inr (cc_f 20 g))))))] : va_W) ++ (cc_w C Lx Gx ++ ([] : va_W))) := hD
    have hl : lv_has ls 2 [(1, .int 20), (0, .ref h0)] := hl
    have ux : cc_U Lx Gx (fun b o => Os b o ∨ ∃ j, j < 20 ∧ b = g j ∧ o = (q1, j)) := ux
    have bx : ∀ j, j < 20 → cc_B Lx Gx 32 (g j) := bx
    refine W.widen (k := 43) (n := 755) (Nat.le_refl _) (Nat.le_refl _) ?_
    refine lv_iload_n hx hb dX3_init_28 rfl (lv_at hl 0 rfl) ?_
    refine lv_bipush (v := (20)) hx hb dX3_init_29 (by decide) ?_
    refine lv_icmp_ge (tgt := 55) hx hb dX3_init_31 (by decide) (fun _ => ?_) (fun c9 => absurd (by decide) c9)
    obtain ⟨Lk3, Gk3, hP, hD, xk3, uk3, mk3, kk3⟩ := cc_absorbRow (X := [(h0, .inr (3, [.ref q1, .ref q3]))]) (q := q1) (t := 4) (N := 20) g (fun i hi => if_pos hi) hP hD ux (h0, 0)
    have hP : va_P D vwCl (([(h0, .inr (3, [.ref q1, .ref q3]))] : va_W) ++ (cc_w C Lk3 Gk3 ++ ([] : va_W))) H := hP
    have hD : va_D A (([(h0, .inr (3, [.ref q1, .ref q3]))] : va_W) ++ (cc_w C Lk3 Gk3 ++ ([] : va_W))) := hD
    obtain ⟨Gf, hP, hD, nf, eG, xf⟩ := cc_absorb (X := []) (q := h0) (e := .inr (3, [.ref q1, .ref q3])) (e' := .inr (3, [.ref q1, .ref q3])) (.inl 3) (fun j => ([0, 0] : List Int).getD j 0) (fun j => ([q1, q3] : List Nat).getD j 0) (fun _ => 0) rfl (fun h => h) hP hD
    have fr : ∀ j : Nat, gr Gf h0 j = (fun j => ([q1, q3] : List Nat).getD j 0) j := fun j => congrFun (congrArg (fun x : cG => x.2.2.1) eG) j
    have fz : ∀ j : Nat, gz Gf h0 j = (fun j => ([0, 0] : List Int).getD j 0) j := fun j => congrFun (congrArg (fun x : cG => x.2.1) eG) j
    have fk : gK Gf h0 = .inl 3 := congrArg (fun x : cG => x.1) eG
    have hR : cc_R (h0 :: Lk3) Gf 3 h0 := ⟨⟨List.mem_cons_self, fk⟩, fun o => cc_U_imp (cc_U_obj uk3 nf xf o fk (fun F f1 fρ hd => ⟨cl_L xf (by decide) (fr 0) mk3 kk3 (f1 _ _ (Or.inl ⟨rfl, rfl⟩)).2 (fun i hi => cx_B xk3 (bx i hi)) (fun i hi => (f1 _ _ (Or.inr (Or.inr ⟨i, hi, rfl, rfl⟩))).2) fρ, cl_B xf (fr 1) (cx_B (cx_t xx xk3) bk1) (f1 _ _ (Or.inr (Or.inl (by rw [eOs]; exact Or.inl ⟨rfl, rfl⟩)))).2 fρ⟩)) (fun b o9 hb => Or.inl hb)⟩
    rw [List.nil_append, List.append_nil] at hP hD
    refine W.widen (k := 43) (n := 755) (by omega) (by omega) ?_
    exact W.vret hx hb hr (fun t ht hW => ⟨⟨(), rfl, trivial, _, _, hR, by rw [ht]; exact hP, va_K.moved hW.alike hK, hD⟩, hS.F ht⟩) hS.2.2 dX3_init_55
  · intro i x H locs ls hi hI ih
    obtain ⟨g, Lx, Gx⟩ := x
    obtain ⟨hP, hD, hS, hl, xx, ux, bx⟩ := hI
    have hP : va_P D vwCl (([(h0, .inr (3, [.ref q1, .ref q3])), (q1, .inl ((C 4), 20, .inr (.inr (.inr (.inr (cc_f i g))))))] : va_W) ++ (cc_w C Lx Gx ++ ([] : va_W))) H := hP
    have hD : va_D A (([(h0, .inr (3, [.ref q1, .ref q3])), (q1, .inl ((C 4), 20, .inr (.inr (.inr (.inr (cc_f i g))))))] : va_W) ++ (cc_w C Lx Gx ++ ([] : va_W))) := hD
    have hl : lv_has ls 2 [(1, .int (nI i)), (0, .ref h0)] := hl
    have ux : cc_U Lx Gx (fun b o => Os b o ∨ ∃ j, j < i ∧ b = g j ∧ o = (q1, j)) := ux
    have bx : ∀ j, j < i → cc_B Lx Gx 32 (g j) := bx
    refine W.widen (k := 3 + 2 * i) (n := 55 + 35 * i) (Nat.le_refl _) (Nat.le_refl _) ?_
    refine lv_iload_n hx hb dX3_init_28 rfl (lv_at hl 0 rfl) ?_
    refine lv_bipush (v := (20)) hx hb dX3_init_29 (by decide) ?_
    refine lv_icmp_ge (tgt := 55) hx hb dX3_init_31 (by decide) (fun c9 => absurd c9 (nI_ge (b := 20) hi (by decide))) (fun _ => ?_)
    refine lv_aload_n hx hb dX3_init_34 rfl (lv_at hl 1 rfl) ?_
    refine va_get (D := D) (ci := 3) (v := .ref q1) (C := RX3) (T := TX3) (N := 2) hx hb hts (fun w h => List.mem_cons_of_mem _ (List.mem_append_left _ (List.mem_append_right _ (h)))) hown hK hP 0 rfl rfl 0 (by decide) (hts (.fieldLink RX3 11 "HiddenMoves$Mix" "parts" "[LHiddenMoves$Big;") (List.mem_cons_of_mem _ (List.mem_append_left _ (List.mem_append_left _ (List.mem_of_getElem? (i := 4) rfl))))) (fun _ h9 => h9) rfl dX3_init_35 ?_
    refine lv_iload_n hx hb dX3_init_38 rfl (lv_at hl 0 rfl) ?_
    refine va_new (ci := 0) (fs := [.null, .int 0, .int 0]) (C := RX0) (T := TX0) (N := 3) hx hb hts (fun w h => List.mem_cons_of_mem _ (List.mem_append_right _ (h))) tyX0 tyX0_ok hown (hts (.classLink RX3 9 RX0) (List.mem_cons_of_mem _ (List.mem_append_left _ (List.mem_append_left _ (List.mem_of_getElem? (i := 3) rfl))))) (hts (.instantiable RX0 3) (List.mem_cons_of_mem _ (List.mem_append_left _ (List.mem_append_left _ (List.mem_of_getElem? (i := 5) rfl))))) (hts (.initialized RX0) (List.mem_cons_of_mem _ (List.mem_append_left _ (List.mem_append_left _ (List.mem_of_getElem? (i := 6) rfl))))) hK hP hD hS hA rfl (fun j hj => by rcases (show j = 0 ∨ j = 1 ∨ j = 2 by omega) with rfl | rfl | rfl <;> rfl) (by show 3 + 2 * i + 1 ≤ 43; omega) (by show 55 + 35 * i + 3 ≤ 755; omega) dX3_init_39 (fun q5 H hP hD hS => ?_)
    have hP := va_P.swap hP
    have hD := va_D.swap hD
    have hP : va_P D vwCl (([(h0, .inr (3, [.ref q1, .ref q3])), (q1, .inl ((C 4), 20, .inr (.inr (.inr (.inr (cc_f i g)))))), (q5, .inr (0, [.null, .int 0, .int 0]))] : va_W) ++ (cc_w C Lx Gx ++ ([] : va_W))) H := hP
    have hD : va_D A (([(h0, .inr (3, [.ref q1, .ref q3])), (q1, .inl ((C 4), 20, .inr (.inr (.inr (.inr (cc_f i g)))))), (q5, .inr (0, [.null, .int 0, .int 0]))] : va_W) ++ (cc_w C Lx Gx ++ ([] : va_W))) := hD
    refine W.widen (k := 3 + 2 * i + 1) (n := 55 + 35 * i + 3) (by omega) (by omega) ?_
    refine lv_dup hx hb dX3_init_42 rfl ?_
    refine lv_bipush (v := (32)) hx hb dX3_init_43 (by decide) ?_
    have hPc := hP.sub (ws' := [(q5, .inr (0, [.null, .int 0, .int 0]))]) [2] rfl
    have hDc := hD.sub (ws' := [(q5, .inr (0, [.null, .int 0, .int 0]))]) [2] (by decide) rfl
    have hFc := va_free (wc := [(q5, .inr (0, [.null, .int 0, .int 0]))]) hD hS hA [2] rfl
    refine va_callv (va_runI (As := [.int 32]) (rest := [.ref q5, .int (nI i), .ref q1]) ⟨hx, hb, hml, hown, hts⟩ (n_X0_init_32 l D C q5 _) (cwI 1 hts gX3_init_X0_init rfl rfl rfl (hts (.initialized RX0) (List.mem_cons_of_mem _ (List.mem_append_left _ (List.mem_append_left _ (List.mem_of_getElem? (i := 6) rfl))))) (hts (.methodLink RX3 17 yX0_init) (List.mem_cons_of_mem _ (List.mem_append_left _ (List.mem_append_left _ (List.mem_of_getElem? (i := 8) rfl))))) (hts (.instanceMethod yX0_init) (List.mem_cons_of_mem _ (List.mem_append_left _ (List.mem_append_left _ (List.mem_of_getElem? (i := 9) rfl))))) rfl (by decide +kernel) ⟨Nat.le_of_ble_eq_true rfl, Nat.le_of_ble_eq_true rfl⟩) ⟨hm_blind, hm_pre hPc hK hDc hE⟩ rfl rfl hl.1 rfl (lv_room (Nat.le_of_ble_eq_true rfl)) dX3_init_45 ⟨(by show 3 + 2 * i + 1 + 1 ≤ 43; omega), (by show 55 + 35 * i + 3 + 32 ≤ 755; omega)⟩) hS (fun q _ h => hFc q h) hFc (fun u t H1 locs ht hvm hw hB hz1 hk1 hS => ?_)
    obtain ⟨q6, hP1, hK1, hD1⟩ := hB
    rw [ht] at hP1
    obtain ⟨hP, hD⟩ := va_joinQ (X := [(h0, .inr (3, [.ref q1, .ref q3])), (q1, .inl ((C 4), 20, .inr (.inr (.inr (.inr (cc_f i g)))))), (q5, .inr (0, [.null, .int 0, .int 0]))]) (cx := [(q5, .inr (0, [.null, .int 0, .int 0]))]) (wr := [(h0, .inr (3, [.ref q1, .ref q3])), (q1, .inl ((C 4), 20, .inr (.inr (.inr (.inr (cc_f i g))))))]) (w1 := [(q5, .inr (0, [.ref q6, .int 0, .int 0])), (q6, .inl ((C 0), 32, .inl (fun _ => 0)))]) (pl := (cc_w C Lx Gx ++ ([] : va_W))) hP hD [2] [0, 1] rfl rfl (by decide) (by decide) hk1 hFc hP1 hD1
    generalize H1 = H at hP hS ⊢
    have hP : va_P D vwCl (([(h0, .inr (3, [.ref q1, .ref q3])), (q1, .inl ((C 4), 20, .inr (.inr (.inr (.inr (cc_f i g)))))), (q5, .inr (0, [.ref q6, .int 0, .int 0])), (q6, .inl ((C 0), 32, .inl (fun _ => 0)))] : va_W) ++ (cc_w C Lx Gx ++ ([] : va_W))) H := hP
    have hD : va_D A (([(h0, .inr (3, [.ref q1, .ref q3])), (q1, .inl ((C 4), 20, .inr (.inr (.inr (.inr (cc_f i g)))))), (q5, .inr (0, [.ref q6, .int 0, .int 0])), (q6, .inl ((C 0), 32, .inl (fun _ => 0)))] : va_W) ++ (cc_w C Lx Gx ++ ([] : va_W))) := hD
    refine W.widen (k := 3 + 2 * i + 1 + 1) (n := 55 + 35 * i + 3 + 32) (by omega) (by omega) ?_
    refine va_astq hx hb hK hP hD hS 1 4 2 0 rfl rfl rfl rfl (vp_in_nI hi (by omega)) dX3_init_48 (fun H locs hP hD hS => ?_)
    have hP : va_P D vwCl (([(h0, .inr (3, [.ref q1, .ref q3])), (q1, .inl ((C 4), 20, .inr (.inr (.inr (.inr (va_up (cc_f i g) (nI i).toNatClampNeg (some q5))))))), (q5, .inr (0, [.ref q6, .int 0, .int 0])), (q6, .inl ((C 0), 32, .inl (fun _ => 0)))] : va_W) ++ (cc_w C Lx Gx ++ ([] : va_W))) H := hP
    have hD : va_D A (([(h0, .inr (3, [.ref q1, .ref q3])), (q1, .inl ((C 4), 20, .inr (.inr (.inr (.inr (va_up (cc_f i g) (nI i).toNatClampNeg (some q5))))))), (q5, .inr (0, [.ref q6, .int 0, .int 0])), (q6, .inl ((C 0), 32, .inl (fun _ => 0)))] : va_W) ++ (cc_w C Lx Gx ++ ([] : va_W))) := hD
    obtain ⟨Lk4, Gk4, hP, hD, xk4, uk4, bk4⟩ := cc_absorbBig (X := [(h0, .inr (3, [.ref q1, .ref q3])), (q1, .inl ((C 4), 20, .inr (.inr (.inr (.inr (va_up (cc_f i g) (nI i).toNatClampNeg (some q5)))))))]) (b := q5) (d := q6) (n := 32) hP hD ux (by decide) (q1, i)
    have hP : va_P D vwCl (([(h0, .inr (3, [.ref q1, .ref q3])), (q1, .inl ((C 4), 20, .inr (.inr (.inr (.inr (va_up (cc_f i g) (nI i).toNatClampNeg (some q5)))))))] : va_W) ++ (cc_w C Lk4 Gk4 ++ ([] : va_W))) H := hP
    have hD : va_D A (([(h0, .inr (3, [.ref q1, .ref q3])), (q1, .inl ((C 4), 20, .inr (.inr (.inr (.inr (va_up (cc_f i g) (nI i).toNatClampNeg (some q5)))))))] : va_W) ++ (cc_w C Lk4 Gk4 ++ ([] : va_W))) := hD
    refine lv_iinc (v := nI (i + 1)) (lv' := [(1, .int (nI (i + 1))), (0, .ref h0)]) hx hb dX3_init_49 hl (k := 0) rfl (nI_1 i) (by decide) rfl (fun ls hl => ?_)
    refine lv_goto (tgt := 28) hx hb dX3_init_52 (by decide) ?_
    rw [cc_f1 (nI_clamp (by omega))] at hP hD
    have hP : va_P D vwCl (([(h0, .inr (3, [.ref q1, .ref q3])), (q1, .inl ((C 4), 20, .inr (.inr (.inr (.inr (cc_f (i + 1) (lp_U g i q5)))))))] : va_W) ++ (cc_w C Lk4 Gk4 ++ ([] : va_W))) H := hP
    have hD : va_D A (([(h0, .inr (3, [.ref q1, .ref q3])), (q1, .inl ((C 4), 20, .inr (.inr (.inr (.inr (cc_f (i + 1) (lp_U g i q5)))))))] : va_W) ++ (cc_w C Lk4 Gk4 ++ ([] : va_W))) := hD
    refine W.widen (k := 3 + 2 * (i + 1)) (n := 55 + 35 * (i + 1)) (by omega) (by omega) ?_
    refine ih (lp_U g i q5, Lk4, Gk4) _ _ _ ⟨hP, hD, hS, lv_sub hl [0, 1] rfl, cx_t xx xk4, cc_U_imp uk4 (fun b o hb => ?_), fun j hj => ?_⟩
    · rcases hb with hb | ⟨j, hj, hb, ho⟩
      · exact Or.inr (Or.inl hb)
      · dsimp only at hb
        by_cases e : j = i
        · subst e
          rw [lp_U_same] at hb
          exact Or.inl ⟨hb, ho⟩
        · rw [lp_U_other e] at hb
          exact Or.inr (Or.inr ⟨j, by omega, hb, ho⟩)
    · by_cases e : j = i
      · subst e
        show cc_B _ _ 32 (lp_U g j _ j)
        rw [lp_U_same]
        exact bk4
      · show cc_B _ _ 32 (lp_U g i _ j)
        rw [lp_U_other e]
        exact cx_B xk4 (bx j (by omega))

set_option maxHeartbeats 4000000 in
set_option maxRecDepth 100000 in
/-- Reply() -/
theorem n_X6_init (l : Launch) (D : va_G) (C : Nat → ClassId) (h0 sz : Nat) : Met l yX6_init wsX6_init ({ frames := 2, cells := 47, slots := 812, locals := 33 }) (va_Pc [.ref h0] (hm_P D [(h0, .inr (6, [.null, .null, .null, .null, .null]))] (cw_t C) sz)) (va_Qv (fun _ : Unit => True) (fun _ t => ∃ (L : List Nat) (G : Nat → cG), cc_R L G 6 h0 ∧ hm_B D (va_A [(h0, .inr (6, [.null, .null, .null, .null, .null]))] sz) (cc_w C L G) (cw_t C) t) (va_A [(h0, .inr (6, [.null, .null, .null, .null, .null]))] sz)) 47 812 (va_A [(h0, .inr (6, [.null, .null, .null, .null, .null]))] sz) := by
  refine Met.ofW (cc := cX6_init) (maxL := 2) (ret := none) (by decide) rfl ?_
  intro p e s m args below meth c s₁ B hml hv
  obtain ⟨rfl, hsz, hP, hK, hD0, hE⟩ := hv
  have hx := B.exec
  have hb := B.bytes
  have hr := B.returns
  have hts := atoms_spec (ws := wsX6_init) B.pre
  have hown : s.vm.findClass RX6 = some m.cls := findClass_of_methodNamed B.named
  have hlocks := B.notSynchronized
  have hin : meth.name = "<init>" := (name_of_methodNamed B.named B.method).1
  subst hsz
  have hD := hD0.self (sz := s.heap.size)
  generalize hAe : va_A [(h0, .inr (6, [.null, .null, .null, .null, .null]))] s.heap.size = A at hD ⊢
  have hA : ∀ q : Nat, s.heap.size ≤ q → A q := fun q h => by rw [← hAe]; exact Or.inr h
  have hS : va_S A s.heap s.heap [] := va_S.rf
  have hP : va_P D vwCl [(h0, .inr (6, [.null, .null, .null, .null, .null]))] s.heap := hP
  have hl := lv_entry ([.ref h0]) (n := 2) (Nat.le_of_ble_eq_true rfl)
  rw [lg_entry_eq]
  generalize (lg_sl ([.ref h0]) ++ List.replicate (2 - (lg_sl ([.ref h0])).length) Slot.unset).toArray = ls at hl ⊢
  have hl : lv_has ls 2 [(0, .ref h0)] := hl
  obtain ⟨G0, -⟩ : ∃ G : Nat → cG, True := ⟨fun _ => (.inl 0, fun _ => 0, fun _ => 0, fun _ => 0), trivial⟩
  have hU0 := cc_U_nil G0
  have hP : va_P D vwCl (([(h0, .inr (6, [.null, .null, .null, .null, .null]))] : va_W) ++ (cc_w C [] G0 ++ ([] : va_W))) s.heap := hP
  have hD : va_D A (([(h0, .inr (6, [.null, .null, .null, .null, .null]))] : va_W) ++ (cc_w C [] G0 ++ ([] : va_W))) := hD
  refine lv_aload_n hx hb dX6_init_0 rfl (lv_at hl 0 rfl) ?_
  refine W.objInit hx hb hown (hts (.methodLink RX6 3 objectInit) (List.mem_cons_of_mem _ (List.mem_append_left _ (List.mem_append_left _ (List.mem_of_getElem? (i := 0) rfl))))) (hts (.instanceMethod objectInit) (List.mem_cons_of_mem _ (List.mem_append_left _ (List.mem_append_left _ (List.mem_of_getElem? (i := 1) rfl))))) (hts _ (List.mem_of_getElem? (i := 3) rfl)) rfl (by rw [hml]; exact hl.1) rfl dX6_init_1 (Nat.le_of_ble_eq_true rfl) (Nat.le_of_ble_eq_true rfl) ?_
  refine W.eq (g2 := F0 m 4 ls []) rfl ?_
  refine lv_aload_n hx hb dX6_init_4 rfl (lv_at hl 0 rfl) ?_
  refine lv_bipush (v := (10)) hx hb dX6_init_5 (by decide) ?_
  refine va_newa (atype := .int) (ty := .int) (N' := 10) (a0 := (10, .inl (fun _ => 0))) hx hb (hts (.arrayClass .int) (List.mem_cons_of_mem _ (List.mem_append_left _ (List.mem_append_left _ (List.mem_of_getElem? (i := 3) rfl))))) rfl hK hP hD hS hA (fun cA => vp_cell_i cA 10 (fun _ => 0)) (by decide) (by decide) (by decide) (Nat.le_of_ble_eq_true rfl) (Nat.le_of_ble_eq_true rfl) dX6_init_7 (fun q1 cA2 H hK9 hP hD hS => ?_)
  have e9 := cc_cA hK9 0 rfl
  subst e9
  have hP := va_P.swap hP
  have hD := va_D.swap hD
  have hP : va_P D vwCl (([(h0, .inr (6, [.null, .null, .null, .null, .null])), (q1, .inl ((C 0), 10, .inl (fun _ => 0)))] : va_W) ++ (cc_w C [] G0 ++ ([] : va_W))) H := hP
  have hD : va_D A (([(h0, .inr (6, [.null, .null, .null, .null, .null])), (q1, .inl ((C 0), 10, .inl (fun _ => 0)))] : va_W) ++ (cc_w C [] G0 ++ ([] : va_W))) := hD
  refine W.widen (k := 1) (n := 10) (by omega) (by omega) ?_
  refine va_putF (D := D) (ci := 6) (v := .ref q1) (ty := .array .int) (C := RX6) (T := TX6) (N := 5) hx hb hts (fun w h => List.mem_cons_of_mem _ (List.mem_append_left _ (List.mem_append_right _ (h)))) tyX6 tyX6_ok nmX6 hown hK hP hD hS 0 rfl rfl 0 (by decide) (hts (.fieldLink RX6 9 "HiddenMoves$Reply" "moves" "[I") (List.mem_cons_of_mem _ (List.mem_append_left _ (List.mem_append_left _ (List.mem_of_getElem? (i := 4) rfl))))) (fun _ h9 => h9) rfl hin rfl (by decide +kernel) rfl rfl (Nat.le_of_ble_eq_true rfl) dX6_init_9 (fun H locs hP hD hS => ?_)
  have hP : va_P D vwCl (([(h0, .inr (6, [.ref q1, .null, .null, .null, .null])), (q1, .inl ((C 0), 10, .inl (fun _ => 0)))] : va_W) ++ (cc_w C [] G0 ++ ([] : va_W))) H := hP
  have hD : va_D A (([(h0, .inr (6, [.ref q1, .null, .null, .null, .null])), (q1, .inl ((C 0), 10, .inl (fun _ => 0)))] : va_W) ++ (cc_w C [] G0 ++ ([] : va_W))) := hD
  refine lv_aload_n hx hb dX6_init_12 rfl (lv_at hl 0 rfl) ?_
  refine lv_bipush (v := (10)) hx hb dX6_init_13 (by decide) ?_
  refine va_newa (atype := .boolean) (ty := .boolean) (N' := 10) (a0 := (10, .inl (fun _ => 0))) hx hb (hts (.arrayClass .boolean) (List.mem_cons_of_mem _ (List.mem_append_left _ (List.mem_append_left _ (List.mem_of_getElem? (i := 5) rfl))))) rfl hK hP hD hS hA (fun cA => vp_cell_i cA 10 (fun _ => 0)) (by decide) (by decide) (by decide) (Nat.le_of_ble_eq_true rfl) (Nat.le_of_ble_eq_true rfl) dX6_init_15 (fun q3 cA4 H hK9 hP hD hS => ?_)
  have e9 := cc_cA hK9 3 rfl
  subst e9
  have hP := va_P.swap hP
  have hD := va_D.swap hD
  have hP : va_P D vwCl (([(h0, .inr (6, [.ref q1, .null, .null, .null, .null])), (q1, .inl ((C 0), 10, .inl (fun _ => 0))), (q3, .inl ((C 3), 10, .inl (fun _ => 0)))] : va_W) ++ (cc_w C [] G0 ++ ([] : va_W))) H := hP
  have hD : va_D A (([(h0, .inr (6, [.ref q1, .null, .null, .null, .null])), (q1, .inl ((C 0), 10, .inl (fun _ => 0))), (q3, .inl ((C 3), 10, .inl (fun _ => 0)))] : va_W) ++ (cc_w C [] G0 ++ ([] : va_W))) := hD
  refine W.widen (k := 2) (n := 20) (by omega) (by omega) ?_
  refine va_putF (D := D) (ci := 6) (v := .ref q3) (ty := .array .boolean) (C := RX6) (T := TX6) (N := 5) hx hb hts (fun w h => List.mem_cons_of_mem _ (List.mem_append_left _ (List.mem_append_right _ (h)))) tyX6 tyX6_ok nmX6 hown hK hP hD hS 0 rfl rfl 1 (by decide) (hts (.fieldLink RX6 15 "HiddenMoves$Reply" "isReached" "[Z") (List.mem_cons_of_mem _ (List.mem_append_left _ (List.mem_append_left _ (List.mem_of_getElem? (i := 6) rfl))))) (fun _ h9 => h9) rfl hin rfl (by decide +kernel) rfl rfl (Nat.le_of_ble_eq_true rfl) dX6_init_17 (fun H locs hP hD hS => ?_)
  have hP : va_P D vwCl (([(h0, .inr (6, [.ref q1, .ref q3, .null, .null, .null])), (q1, .inl ((C 0), 10, .inl (fun _ => 0))), (q3, .inl ((C 3), 10, .inl (fun _ => 0)))] : va_W) ++ (cc_w C [] G0 ++ ([] : va_W))) H := hP
  have hD : va_D A (([(h0, .inr (6, [.ref q1, .ref q3, .null, .null, .null])), (q1, .inl ((C 0), 10, .inl (fun _ => 0))), (q3, .inl ((C 3), 10, .inl (fun _ => 0)))] : va_W) ++ (cc_w C [] G0 ++ ([] : va_W))) := hD
  refine lv_aload_n hx hb dX6_init_20 rfl (lv_at hl 0 rfl) ?_
  refine lv_bipush (v := (20)) hx hb dX6_init_21 (by decide) ?_
  refine va_newq (N' := 20) hx hb hown (hts (.classLink RX6 19 RX0) (List.mem_cons_of_mem _ (List.mem_append_left _ (List.mem_append_left _ (List.mem_of_getElem? (i := 7) rfl))))) hE.ao_RX0 hK hP hD hS hA (by decide) (by decide) (by decide) (Nat.le_of_ble_eq_true rfl) (Nat.le_of_ble_eq_true rfl) dX6_init_23 (fun q5 cA6 H hK9 hP hD hS => ?_)
  have e9 := cc_cA hK9 4 rfl
  subst e9
  have hP := va_P.swap hP
  have hD := va_D.swap hD
  have hP : va_P D vwCl (([(h0, .inr (6, [.ref q1, .ref q3, .null, .null, .null])), (q1, .inl ((C 0), 10, .inl (fun _ => 0))), (q3, .inl ((C 3), 10, .inl (fun _ => 0))), (q5, .inl ((C 4), 20, .inr (.inr (.inr (.inr (fun _ => none))))))] : va_W) ++ (cc_w C [] G0 ++ ([] : va_W))) H := hP
  have hD : va_D A (([(h0, .inr (6, [.ref q1, .ref q3, .null, .null, .null])), (q1, .inl ((C 0), 10, .inl (fun _ => 0))), (q3, .inl ((C 3), 10, .inl (fun _ => 0))), (q5, .inl ((C 4), 20, .inr (.inr (.inr (.inr (fun _ => none))))))] : va_W) ++ (cc_w C [] G0 ++ ([] : va_W))) := hD
  refine W.widen (k := 3) (n := 40) (by omega) (by omega) ?_
  refine va_putF (D := D) (ci := 6) (v := .ref q5) (ty := .array (.object "HiddenMoves$Big")) (C := RX6) (T := TX6) (N := 5) hx hb hts (fun w h => List.mem_cons_of_mem _ (List.mem_append_left _ (List.mem_append_right _ (h)))) tyX6 tyX6_ok nmX6 hown hK hP hD hS 0 rfl rfl 2 (by decide) (hts (.fieldLink RX6 21 "HiddenMoves$Reply" "gains" "[LHiddenMoves$Big;") (List.mem_cons_of_mem _ (List.mem_append_left _ (List.mem_append_left _ (List.mem_of_getElem? (i := 8) rfl))))) (fun _ h9 => h9) rfl hin rfl (by decide +kernel) rfl rfl (Nat.le_of_ble_eq_true rfl) dX6_init_26 (fun H locs hP hD hS => ?_)
  have hP : va_P D vwCl (([(h0, .inr (6, [.ref q1, .ref q3, .ref q5, .null, .null])), (q1, .inl ((C 0), 10, .inl (fun _ => 0))), (q3, .inl ((C 3), 10, .inl (fun _ => 0))), (q5, .inl ((C 4), 20, .inr (.inr (.inr (.inr (fun _ => none))))))] : va_W) ++ (cc_w C [] G0 ++ ([] : va_W))) H := hP
  have hD : va_D A (([(h0, .inr (6, [.ref q1, .ref q3, .ref q5, .null, .null])), (q1, .inl ((C 0), 10, .inl (fun _ => 0))), (q3, .inl ((C 3), 10, .inl (fun _ => 0))), (q5, .inl ((C 4), 20, .inr (.inr (.inr (.inr (fun _ => none))))))] : va_W) ++ (cc_w C [] G0 ++ ([] : va_W))) := hD
  refine lv_aload_n hx hb dX6_init_29 rfl (lv_at hl 0 rfl) ?_
  refine va_new (ci := 0) (fs := [.null, .int 0, .int 0]) (C := RX0) (T := TX0) (N := 3) hx hb hts (fun w h => List.mem_cons_of_mem _ (List.mem_append_right _ (h))) tyX0 tyX0_ok hown (hts (.classLink RX6 19 RX0) (List.mem_cons_of_mem _ (List.mem_append_left _ (List.mem_append_left _ (List.mem_of_getElem? (i := 7) rfl))))) (hts (.instantiable RX0 3) (List.mem_cons_of_mem _ (List.mem_append_left _ (List.mem_append_left _ (List.mem_of_getElem? (i := 9) rfl))))) (hts (.initialized RX0) (List.mem_cons_of_mem _ (List.mem_append_left _ (List.mem_append_left _ (List.mem_of_getElem? (i := 10) rfl))))) hK hP hD hS hA rfl (fun j hj => by rcases (show j = 0 ∨ j = 1 ∨ j = 2 by omega) with rfl | rfl | rfl <;> rfl) (Nat.le_of_ble_eq_true rfl) (Nat.le_of_ble_eq_true rfl) dX6_init_30 (fun q7 H hP hD hS => ?_)
  have hP := va_P.swap hP
  have hD := va_D.swap hD
  have hP : va_P D vwCl (([(h0, .inr (6, [.ref q1, .ref q3, .ref q5, .null, .null])), (q1, .inl ((C 0), 10, .inl (fun _ => 0))), (q3, .inl ((C 3), 10, .inl (fun _ => 0))), (q5, .inl ((C 4), 20, .inr (.inr (.inr (.inr (fun _ => none)))))), (q7, .inr (0, [.null, .int 0, .int 0]))] : va_W) ++ (cc_w C [] G0 ++ ([] : va_W))) H := hP
  have hD : va_D A (([(h0, .inr (6, [.ref q1, .ref q3, .ref q5, .null, .null])), (q1, .inl ((C 0), 10, .inl (fun _ => 0))), (q3, .inl ((C 3), 10, .inl (fun _ => 0))), (q5, .inl ((C 4), 20, .inr (.inr (.inr (.inr (fun _ => none)))))), (q7, .inr (0, [.null, .int 0, .int 0]))] : va_W) ++ (cc_w C [] G0 ++ ([] : va_W))) := hD
  refine W.widen (k := 4) (n := 43) (by omega) (by omega) ?_
  refine lv_dup hx hb dX6_init_33 rfl ?_
  refine lv_iconst (v := 2) hx hb dX6_init_34 (by decide) ?_
  have hPc := hP.sub (ws' := [(q7, .inr (0, [.null, .int 0, .int 0]))]) [4] rfl
  have hDc := hD.sub (ws' := [(q7, .inr (0, [.null, .int 0, .int 0]))]) [4] (by decide) rfl
  have hFc := va_free (wc := [(q7, .inr (0, [.null, .int 0, .int 0]))]) hD hS hA [4] rfl
  refine va_callv (va_runI (As := [.int 2]) (rest := [.ref q7, .ref h0]) ⟨hx, hb, hml, hown, hts⟩ (n_X0_init_2 l D C q7 _) (cwI 1 hts gX6_init_X0_init rfl rfl rfl (hts (.initialized RX0) (List.mem_cons_of_mem _ (List.mem_append_left _ (List.mem_append_left _ (List.mem_of_getElem? (i := 10) rfl))))) (hts (.methodLink RX6 25 yX0_init) (List.mem_cons_of_mem _ (List.mem_append_left _ (List.mem_append_left _ (List.mem_of_getElem? (i := 13) rfl))))) (hts (.instanceMethod yX0_init) (List.mem_cons_of_mem _ (List.mem_append_left _ (List.mem_append_left _ (List.mem_of_getElem? (i := 14) rfl))))) rfl (by decide +kernel) ⟨Nat.le_of_ble_eq_true rfl, Nat.le_of_ble_eq_true rfl⟩) ⟨hm_blind, hm_pre hPc hK hDc hE⟩ rfl rfl hl.1 rfl (lv_room (Nat.le_of_ble_eq_true rfl)) dX6_init_35 ⟨(Nat.le_of_ble_eq_true rfl), (Nat.le_of_ble_eq_true rfl)⟩) hS (fun q _ h => hFc q h) hFc (fun u t H1 locs ht hvm hw hB hz1 hk1 hS => ?_)
  obtain ⟨q8, hP1, hK1, hD1⟩ := hB
  rw [ht] at hP1
  obtain ⟨hP, hD⟩ := va_joinQ (X := [(h0, .inr (6, [.ref q1, .ref q3, .ref q5, .null, .null])), (q1, .inl ((C 0), 10, .inl (fun _ => 0))), (q3, .inl ((C 3), 10, .inl (fun _ => 0))), (q5, .inl ((C 4), 20, .inr (.inr (.inr (.inr (fun _ => none)))))), (q7, .inr (0, [.null, .int 0, .int 0]))]) (cx := [(q7, .inr (0, [.null, .int 0, .int 0]))]) (wr := [(h0, .inr (6, [.ref q1, .ref q3, .ref q5, .null, .null])), (q1, .inl ((C 0), 10, .inl (fun _ => 0))), (q3, .inl ((C 3), 10, .inl (fun _ => 0))), (q5, .inl ((C 4), 20, .inr (.inr (.inr (.inr (fun _ => none))))))]) (w1 := [(q7, .inr (0, [.ref q8, .int 0, .int 0])), (q8, .inl ((C 0), 2, .inl (fun _ => 0)))]) (pl := (cc_w C [] G0 ++ ([] : va_W))) hP hD [4] [0, 1, 2, 3] rfl rfl (by decide) (by decide) hk1 hFc hP1 hD1
  generalize H1 = H at hP hS ⊢
  have hP : va_P D vwCl (([(h0, .inr (6, [.ref q1, .ref q3, .ref q5, .null, .null])), (q1, .inl ((C 0), 10, .inl (fun _ => 0))), (q3, .inl ((C 3), 10, .inl (fun _ => 0))), (q5, .inl ((C 4), 20, .inr (.inr (.inr (.inr (fun _ => none)))))), (q7, .inr (0, [.ref q8, .int 0, .int 0])), (q8, .inl ((C 0), 2, .inl (fun _ => 0)))] : va_W) ++ (cc_w C [] G0 ++ ([] : va_W))) H := hP
  have hD : va_D A (([(h0, .inr (6, [.ref q1, .ref q3, .ref q5, .null, .null])), (q1, .inl ((C 0), 10, .inl (fun _ => 0))), (q3, .inl ((C 3), 10, .inl (fun _ => 0))), (q5, .inl ((C 4), 20, .inr (.inr (.inr (.inr (fun _ => none)))))), (q7, .inr (0, [.ref q8, .int 0, .int 0])), (q8, .inl ((C 0), 2, .inl (fun _ => 0)))] : va_W) ++ (cc_w C [] G0 ++ ([] : va_W))) := hD
  refine W.widen (k := 5) (n := 45) (by omega) (by omega) ?_
  refine va_putF (D := D) (ci := 6) (v := .ref q7) (ty := .object "HiddenMoves$Big") (C := RX6) (T := TX6) (N := 5) hx hb hts (fun w h => List.mem_cons_of_mem _ (List.mem_append_left _ (List.mem_append_right _ (h)))) tyX6 tyX6_ok nmX6 hown hK hP hD hS 0 rfl rfl 3 (by decide) (hts (.fieldLink RX6 28 "HiddenMoves$Reply" "factor" "LHiddenMoves$Big;") (List.mem_cons_of_mem _ (List.mem_append_left _ (List.mem_append_left _ (List.mem_of_getElem? (i := 11) rfl))))) (fun _ h9 => h9) rfl hin rfl (by decide +kernel) rfl rfl (Nat.le_of_ble_eq_true rfl) dX6_init_38 (fun H locs hP hD hS => ?_)
  have hP : va_P D vwCl (([(h0, .inr (6, [.ref q1, .ref q3, .ref q5, .ref q7, .null])), (q1, .inl ((C 0), 10, .inl (fun _ => 0))), (q3, .inl ((C 3), 10, .inl (fun _ => 0))), (q5, .inl ((C 4), 20, .inr (.inr (.inr (.inr (fun _ => none)))))), (q7, .inr (0, [.ref q8, .int 0, .int 0])), (q8, .inl ((C 0), 2, .inl (fun _ => 0)))] : va_W) ++ (cc_w C [] G0 ++ ([] : va_W))) H := hP
  have hD : va_D A (([(h0, .inr (6, [.ref q1, .ref q3, .ref q5, .ref q7, .null])), (q1, .inl ((C 0), 10, .inl (fun _ => 0))), (q3, .inl ((C 3), 10, .inl (fun _ => 0))), (q5, .inl ((C 4), 20, .inr (.inr (.inr (.inr (fun _ => none)))))), (q7, .inr (0, [.ref q8, .int 0, .int 0])), (q8, .inl ((C 0), 2, .inl (fun _ => 0)))] : va_W) ++ (cc_w C [] G0 ++ ([] : va_W))) := hD
  obtain ⟨Lk1, Gk1, hP, hD, xk1, uk1, bk1⟩ := cc_absorbBig (X := [(h0, .inr (6, [.ref q1, .ref q3, .ref q5, .ref q7, .null])), (q1, .inl ((C 0), 10, .inl (fun _ => 0))), (q3, .inl ((C 3), 10, .inl (fun _ => 0))), (q5, .inl ((C 4), 20, .inr (.inr (.inr (.inr (fun _ => none))))))]) (b := q7) (d := q8) (n := 2) hP hD hU0 (by decide) (h0, 3)
  have hP : va_P D vwCl (([(h0, .inr (6, [.ref q1, .ref q3, .ref q5, .ref q7, .null])), (q1, .inl ((C 0), 10, .inl (fun _ => 0))), (q3, .inl ((C 3), 10, .inl (fun _ => 0))), (q5, .inl ((C 4), 20, .inr (.inr (.inr (.inr (fun _ => none))))))] : va_W) ++ (cc_w C Lk1 Gk1 ++ ([] : va_W))) H := hP
  have hD : va_D A (([(h0, .inr (6, [.ref q1, .ref q3, .ref q5, .ref q7, .null])), (q1, .inl ((C 0), 10, .inl (fun _ => 0))), (q3, .inl ((C 3), 10, .inl (fun _ => 0))), (q5, .inl ((C 4), 20, .inr (.inr (.inr (.inr (fun _ => none))))))] : va_W) ++ (cc_w C Lk1 Gk1 ++ ([] : va_W))) := hD
  refine lv_aload_n hx hb dX6_init_41 rfl (lv_at hl 0 rfl) ?_
  refine va_new (ci := 0) (fs := [.null, .int 0, .int 0]) (C := RX0) (T := TX0) (N := 3) hx hb hts (fun w h => List.mem_cons_of_mem _ (List.mem_append_right _ (h))) tyX0 tyX0_ok hown (hts (.classLink RX6 19 RX0) (List.mem_cons_of_mem _ (List.mem_append_left _ (List.mem_append_left _ (List.mem_of_getElem? (i := 7) rfl))))) (hts (.instantiable RX0 3) (List.mem_cons_of_mem _ (List.mem_append_left _ (List.mem_append_left _ (List.mem_of_getElem? (i := 9) rfl))))) (hts (.initialized RX0) (List.mem_cons_of_mem _ (List.mem_append_left _ (List.mem_append_left _ (List.mem_of_getElem? (i := 10) rfl))))) hK hP hD hS hA rfl (fun j hj => by rcases (show j = 0 ∨ j = 1 ∨ j = 2 by omega) with rfl | rfl | rfl <;> rfl) (Nat.le_of_ble_eq_true rfl) (Nat.le_of_ble_eq_true rfl) dX6_init_42 (fun q9 H hP hD hS => ?_)
  have hP := va_P.swap hP
  have hD := va_D.swap hD
  have hP : va_P D vwCl (([(h0, .inr (6, [.ref q1, .ref q3, .ref q5, .ref q7, .null])), (q1, .inl ((C 0), 10, .inl (fun _ => 0))), (q3, .inl ((C 3), 10, .inl (fun _ => 0))), (q5, .inl ((C 4), 20, .inr (.inr (.inr (.inr (fun _ => none)))))), (q9, .inr (0, [.null, .int 0, .int 0]))] : va_W) ++ (cc_w C Lk1 Gk1 ++ ([] : va_W))) H := hP
  have hD : va_D A (([(h0, .inr (6, [.ref q1, .ref q3, .ref q5, .ref q7, .null])), (q1, .inl ((C 0), 10, .inl (fun _ => 0))), (q3, .inl ((C 3), 10, .inl (fun _ => 0))), (q5, .inl ((C 4), 20, .inr (.inr (.inr (.inr (fun _ => none)))))), (q9, .inr (0, [.null, .int 0, .int 0]))] : va_W) ++ (cc_w C Lk1 Gk1 ++ ([] : va_W))) := hD
  refine W.widen (k := 6) (n := 48) (by omega) (by omega) ?_
  refine lv_dup hx hb dX6_init_45 rfl ?_
  refine lv_bipush (v := (64)) hx hb dX6_init_46 (by decide) ?_
  have hPc := hP.sub (ws' := [(q9, .inr (0, [.null, .int 0, .int 0]))]) [4] rfl
  have hDc := hD.sub (ws' := [(q9, .inr (0, [.null, .int 0, .int 0]))]) [4] (by decide) rfl
  have hFc := va_free (wc := [(q9, .inr (0, [.null, .int 0, .int 0]))]) hD hS hA [4] rfl
  refine va_callv (va_runI (As := [.int 64]) (rest := [.ref q9, .ref h0]) ⟨hx, hb, hml, hown, hts⟩ (n_X0_init_64 l D C q9 _) (cwI 1 hts gX6_init_X0_init rfl rfl rfl (hts (.initialized RX0) (List.mem_cons_of_mem _ (List.mem_append_left _ (List.mem_append_left _ (List.mem_of_getElem? (i := 10) rfl))))) (hts (.methodLink RX6 25 yX0_init) (List.mem_cons_of_mem _ (List.mem_append_left _ (List.mem_append_left _ (List.mem_of_getElem? (i := 13) rfl))))) (hts (.instanceMethod yX0_init) (List.mem_cons_of_mem _ (List.mem_append_left _ (List.mem_append_left _ (List.mem_of_getElem? (i := 14) rfl))))) rfl (by decide +kernel) ⟨Nat.le_of_ble_eq_true rfl, Nat.le_of_ble_eq_true rfl⟩) ⟨hm_blind, hm_pre hPc hK hDc hE⟩ rfl rfl hl.1 rfl (lv_room (Nat.le_of_ble_eq_true rfl)) dX6_init_48 ⟨(Nat.le_of_ble_eq_true rfl), (Nat.le_of_ble_eq_true rfl)⟩) hS (fun q _ h => hFc q h) hFc (fun u t H1 locs ht hvm hw hB hz1 hk1 hS => ?_)
  obtain ⟨q10, hP1, hK1, hD1⟩ := hB
  rw [ht] at hP1
  obtain ⟨hP, hD⟩ := va_joinQ (X := [(h0, .inr (6, [.ref q1, .ref q3, .ref q5, .ref q7, .null])), (q1, .inl ((C 0), 10, .inl (fun _ => 0))), (q3, .inl ((C 3), 10, .inl (fun _ => 0))), (q5, .inl ((C 4), 20, .inr (.inr (.inr (.inr (fun _ => none)))))), (q9, .inr (0, [.null, .int 0, .int 0]))]) (cx := [(q9, .inr (0, [.null, .int 0, .int 0]))]) (wr := [(h0, .inr (6, [.ref q1, .ref q3, .ref q5, .ref q7, .null])), (q1, .inl ((C 0), 10, .inl (fun _ => 0))), (q3, .inl ((C 3), 10, .inl (fun _ => 0))), (q5, .inl ((C 4), 20, .inr (.inr (.inr (.inr (fun _ => none))))))]) (w1 := [(q9, .inr (0, [.ref q10, .int 0, .int 0])), (q10, .inl ((C 0), 64, .inl (fun _ => 0)))]) (pl := (cc_w C Lk1 Gk1 ++ ([] : va_W))) hP hD [4] [0, 1, 2, 3] rfl rfl (by decide) (by decide) hk1 hFc hP1 hD1
  generalize H1 = H at hP hS ⊢
  have hP : va_P D vwCl (([(h0, .inr (6, [.ref q1, .ref q3, .ref q5, .ref q7, .null])), (q1, .inl ((C 0), 10, .inl (fun _ => 0))), (q3, .inl ((C 3), 10, .inl (fun _ => 0))), (q5, .inl ((C 4), 20, .inr (.inr (.inr (.inr (fun _ => none)))))), (q9, .inr (0, [.ref q10, .int 0, .int 0])), (q10, .inl ((C 0), 64, .inl (fun _ => 0)))] : va_W) ++ (cc_w C Lk1 Gk1 ++ ([] : va_W))) H := hP
  have hD : va_D A (([(h0, .inr (6, [.ref q1, .ref q3, .ref q5, .ref q7, .null])), (q1, .inl ((C 0), 10, .inl (fun _ => 0))), (q3, .inl ((C 3), 10, .inl (fun _ => 0))), (q5, .inl ((C 4), 20, .inr (.inr (.inr (.inr (fun _ => none)))))), (q9, .inr (0, [.ref q10, .int 0, .int 0])), (q10, .inl ((C 0), 64, .inl (fun _ => 0)))] : va_W) ++ (cc_w C Lk1 Gk1 ++ ([] : va_W))) := hD
  refine W.widen (k := 7) (n := 112) (by omega) (by omega) ?_
  refine va_putF (D := D) (ci := 6) (v := .ref q9) (ty := .object "HiddenMoves$Big") (C := RX6) (T := TX6) (N := 5) hx hb hts (fun w h => List.mem_cons_of_mem _ (List.mem_append_left _ (List.mem_append_right _ (h)))) tyX6 tyX6_ok nmX6 hown hK hP hD hS 0 rfl rfl 4 (by decide) (hts (.fieldLink RX6 32 "HiddenMoves$Reply" "term" "LHiddenMoves$Big;") (List.mem_cons_of_mem _ (List.mem_append_left _ (List.mem_append_left _ (List.mem_of_getElem? (i := 12) rfl))))) (fun _ h9 => h9) rfl hin rfl (by decide +kernel) rfl rfl (Nat.le_of_ble_eq_true rfl) dX6_init_51 (fun H locs hP hD hS => ?_)
  have hP : va_P D vwCl (([(h0, .inr (6, [.ref q1, .ref q3, .ref q5, .ref q7, .ref q9])), (q1, .inl ((C 0), 10, .inl (fun _ => 0))), (q3, .inl ((C 3), 10, .inl (fun _ => 0))), (q5, .inl ((C 4), 20, .inr (.inr (.inr (.inr (fun _ => none)))))), (q9, .inr (0, [.ref q10, .int 0, .int 0])), (q10, .inl ((C 0), 64, .inl (fun _ => 0)))] : va_W) ++ (cc_w C Lk1 Gk1 ++ ([] : va_W))) H := hP
  have hD : va_D A (([(h0, .inr (6, [.ref q1, .ref q3, .ref q5, .ref q7, .ref q9])), (q1, .inl ((C 0), 10, .inl (fun _ => 0))), (q3, .inl ((C 3), 10, .inl (fun _ => 0))), (q5, .inl ((C 4), 20, .inr (.inr (.inr (.inr (fun _ => none)))))), (q9, .inr (0, [.ref q10, .int 0, .int 0])), (q10, .inl ((C 0), 64, .inl (fun _ => 0)))] : va_W) ++ (cc_w C Lk1 Gk1 ++ ([] : va_W))) := hD
  obtain ⟨Lk2, Gk2, hP, hD, xk2, uk2, bk2⟩ := cc_absorbBig (X := [(h0, .inr (6, [.ref q1, .ref q3, .ref q5, .ref q7, .ref q9])), (q1, .inl ((C 0), 10, .inl (fun _ => 0))), (q3, .inl ((C 3), 10, .inl (fun _ => 0))), (q5, .inl ((C 4), 20, .inr (.inr (.inr (.inr (fun _ => none))))))]) (b := q9) (d := q10) (n := 64) hP hD uk1 (by decide) (h0, 4)
  have hP : va_P D vwCl (([(h0, .inr (6, [.ref q1, .ref q3, .ref q5, .ref q7, .ref q9])), (q1, .inl ((C 0), 10, .inl (fun _ => 0))), (q3, .inl ((C 3), 10, .inl (fun _ => 0))), (q5, .inl ((C 4), 20, .inr (.inr (.inr (.inr (fun _ => none))))))] : va_W) ++ (cc_w C Lk2 Gk2 ++ ([] : va_W))) H := hP
  have hD : va_D A (([(h0, .inr (6, [.ref q1, .ref q3, .ref q5, .ref q7, .ref q9])), (q1, .inl ((C 0), 10, .inl (fun _ => 0))), (q3, .inl ((C 3), 10, .inl (fun _ => 0))), (q5, .inl ((C 4), 20, .inr (.inr (.inr (.inr (fun _ => none))))))] : va_W) ++ (cc_w C Lk2 Gk2 ++ ([] : va_W))) := hD
  refine lv_iconst (v := 0) hx hb dX6_init_54 (by decide) ?_
  refine lv_istore_n (lv' := [(1, .int 0), (0, .ref h0)]) hx hb dX6_init_55 rfl hl (by decide) rfl (fun ls hl => ?_)
  have hP := va_P.part (X := [(h0, .inr (6, [.ref q1, .ref q3, .ref q5, .ref q7, .ref q9])), (q1, .inl ((C 0), 10, .inl (fun _ => 0))), (q3, .inl ((C 3), 10, .inl (fun _ => 0))), (q5, .inl ((C 4), 20, .inr (.inr (.inr (.inr (fun _ => none))))))]) (cx := [(h0, .inr (6, [.ref q1, .ref q3, .ref q5, .ref q7, .ref q9])), (q3, .inl ((C 3), 10, .inl (fun _ => 0))), (q5, .inl ((C 4), 20, .inr (.inr (.inr (.inr (fun _ => none)))))), (q1, .inl ((C 0), 10, .inl (fun _ => 0)))]) hP [0, 2, 3, 1] rfl
  have hD := va_D.part (X := [(h0, .inr (6, [.ref q1, .ref q3, .ref q5, .ref q7, .ref q9])), (q1, .inl ((C 0), 10, .inl (fun _ => 0))), (q3, .inl ((C 3), 10, .inl (fun _ => 0))), (q5, .inl ((C 4), 20, .inr (.inr (.inr (.inr (fun _ => none))))))]) (cx := [(h0, .inr (6, [.ref q1, .ref q3, .ref q5, .ref q7, .ref q9])), (q3, .inl ((C 3), 10, .inl (fun _ => 0))), (q5, .inl ((C 4), 20, .inr (.inr (.inr (.inr (fun _ => none)))))), (q1, .inl ((C 0), 10, .inl (fun _ => 0)))]) hD [0, 2, 3, 1] (by decide) rfl
  obtain ⟨Lk3, Gk3, hP, hD, xk3, uk3, mk3, kk3, ak3⟩ := cc_absorbArr (X := [(h0, .inr (6, [.ref q1, .ref q3, .ref q5, .ref q7, .ref q9])), (q3, .inl ((C 3), 10, .inl (fun _ => 0))), (q5, .inl ((C 4), 20, .inr (.inr (.inr (.inr (fun _ => none))))))]) (q := q1) (t := 0) (n := 10) (e := .inl ((C 0), 10, .inl (fun _ => 0))) (fun _ => 0) rfl hP hD uk2 (h0, 0) (fun i => ⟨fun _ => by decide, fun _ => by decide, fun _ => by decide, fun _ => Or.inl rfl⟩)
  have hP : va_P D vwCl (([(h0, .inr (6, [.ref q1, .ref q3, .ref q5, .ref q7, .ref q9])), (q3, .inl ((C 3), 10, .inl (fun _ => 0))), (q5, .inl ((C 4), 20, .inr (.inr (.inr (.inr (fun _ => none))))))] : va_W) ++ (cc_w C Lk3 Gk3 ++ ([] : va_W))) H := hP
  have hD : va_D A (([(h0, .inr (6, [.ref q1, .ref q3, .ref q5, .ref q7, .ref q9])), (q3, .inl ((C 3), 10, .inl (fun _ => 0))), (q5, .inl ((C 4), 20, .inr (.inr (.inr (.inr (fun _ => none))))))] : va_W) ++ (cc_w C Lk3 Gk3 ++ ([] : va_W))) := hD
  have hP := va_P.part (X := [(h0, .inr (6, [.ref q1, .ref q3, .ref q5, .ref q7, .ref q9])), (q3, .inl ((C 3), 10, .inl (fun _ => 0))), (q5, .inl ((C 4), 20, .inr (.inr (.inr (.inr (fun _ => none))))))]) (cx := [(h0, .inr (6, [.ref q1, .ref q3, .ref q5, .ref q7, .ref q9])), (q5, .inl ((C 4), 20, .inr (.inr (.inr (.inr (fun _ => none)))))), (q3, .inl ((C 3), 10, .inl (fun _ => 0)))]) hP [0, 2, 1] rfl
  have hD := va_D.part (X := [(h0, .inr (6, [.ref q1, .ref q3, .ref q5, .ref q7, .ref q9])), (q3, .inl ((C 3), 10, .inl (fun _ => 0))), (q5, .inl ((C 4), 20, .inr (.inr (.inr (.inr (fun _ => none))))))]) (cx := [(h0, .inr (6, [.ref q1, .ref q3, .ref q5, .ref q7, .ref q9])), (q5, .inl ((C 4), 20, .inr (.inr (.inr (.inr (fun _ => none)))))), (q3, .inl ((C 3), 10, .inl (fun _ => 0)))]) hD [0, 2, 1] (by decide) rfl
  obtain ⟨Lk4, Gk4, hP, hD, xk4, uk4, mk4, kk4, ak4⟩ := cc_absorbArr (X := [(h0, .inr (6, [.ref q1, .ref q3, .ref q5, .ref q7, .ref q9])), (q5, .inl ((C 4), 20, .inr (.inr (.inr (.inr (fun _ => none))))))]) (q := q3) (t := 3) (n := 10) (e := .inl ((C 3), 10, .inl (fun _ => 0))) (fun _ => 0) rfl hP hD uk3 (h0, 1) (fun i => ⟨fun _ => by decide, fun _ => by decide, fun _ => by decide, fun _ => Or.inl rfl⟩)
  have hP : va_P D vwCl (([(h0, .inr (6, [.ref q1, .ref q3, .ref q5, .ref q7, .ref q9])), (q5, .inl ((C 4), 20, .inr (.inr (.inr (.inr (fun _ => none))))))] : va_W) ++ (cc_w C Lk4 Gk4 ++ ([] : va_W))) H := hP
  have hD : va_D A (([(h0, .inr (6, [.ref q1, .ref q3, .ref q5, .ref q7, .ref q9])), (q5, .inl ((C 4), 20, .inr (.inr (.inr (.inr (fun _ => none))))))] : va_W) ++ (cc_w C Lk4 Gk4 ++ ([] : va_W))) := hD
  rw [cc_f0 (fun _ => 0)] at hP hD
  have hP : va_P D vwCl (([(h0, .inr (6, [.ref q1, .ref q3, .ref q5, .ref q7, .ref q9])), (q5, .inl ((C 4), 20, .inr (.inr (.inr (.inr (cc_f 0 (fun _ => 0)))))))] : va_W) ++ (cc_w C Lk4 Gk4 ++ ([] : va_W))) H := hP
  have hD : va_D A (([(h0, .inr (6, [.ref q1, .ref q3, .ref q5, .ref q7, .ref q9])), (q5, .inl ((C 4), 20, .inr (.inr (.inr (.inr (cc_f 0 (fun _ => 0)))))))] : va_W) ++ (cc_w C Lk4 Gk4 ++ ([] : va_W))) := hD
  obtain ⟨Os, eOs⟩ : ∃ P : Nat → Nat × Nat → Prop, P = fun b o => (b = q3 ∧ o = (h0, 1)) ∨ (b = q1 ∧ o = (h0, 0)) ∨ (b = q9 ∧ o = (h0, 4)) ∨ (b = q7 ∧ o = (h0, 3)) ∨ False := ⟨_, rfl⟩
  have us : cc_U Lk4 Gk4 Os := cc_U_imp uk4 (fun b o hb => by rw [eOs] at hb; exact hb)
  refine hm_loop (σ := (Nat → Nat) × List Nat × (Nat → cG)) 20 (fun i x H locs ls => va_P D vwCl (([(h0, .inr (6, [.ref q1, .ref q3, .ref q5, .ref q7, .ref q9])), (q5, .inl ((C 4), 20, .inr (.inr (.inr (.inr (cc_f i x.1))))))] : va_W) ++ (cc_w C x.2.1 x.2.2 ++ ([] : va_W))) H ∧ va_D A (([(h0, .inr (6, [.ref q1, .ref q3, .ref q5, .ref q7, .ref q9])), (q5, .inl ((C 4), 20, .inr (.inr (.inr (.inr (cc_f i x.1))))))] : va_W) ++ (cc_w C x.2.1 x.2.2 ++ ([] : va_W))) ∧ va_S A s.heap H locs ∧ lv_has ls 2 [(1, .int (nI i)), (0, .ref h0)] ∧ cx Lk4 Gk4 x.2.1 x.2.2 ∧ cc_U x.2.1 x.2.2 (fun b o => Os b o ∨ ∃ j, j < i ∧ b = x.1 j ∧ o = (q5, j)) ∧ ∀ j, j < i → cc_B x.2.1 x.2.2 32 (x.1 j)) (fun i => 7 + 2 * i) (fun i => 112 + 35 * i) 56 ?_ ?_ (fun _ => 0, Lk4, Gk4) ⟨hP, hD, hS, hl, cx_r _ _, cc_U_imp us (fun b o hb => hb.resolve_right (fun ⟨j, hj, _⟩ => by omega)), fun j hj => by omega⟩
  · intro x H locs ls hI
    obtain ⟨g, Lx, Gx⟩ := x
    obtain ⟨hP, hD, hS, hl, xx, ux, bx⟩ := hI
    have hP : va_P D vwCl (([(h0, .inr (6, [.ref q1, .ref q3, .ref q5, .ref q7, .ref q9])), (q5, .inl ((C 4), 20, .inr (.inr (.inr (.inr (cc_f 20 g))))))] : va_W) ++ (cc_w C Lx Gx ++ ([] : va_W))) H := hP
    have hD : va_D A (([(h0, .inr (6, [.ref q1, .ref q3, .ref q5, .ref q7, .ref q9])), (q5, .inl ((C 4), 20, .inr (.inr (.inr (.inr (cc_f 20 g))))))] : va_W) ++ (cc_w C Lx Gx ++ ([] : va_W))) := hD
    have hl : lv_has ls 2 [(1, .int 20), (0, .ref h0)] := hl
    have ux : cc_U Lx Gx (fun b o => Os b o ∨ ∃ j, j < 20 ∧ b = g j ∧ o = (q5, j)) := ux
    have bx : ∀ j, j < 20 → cc_B Lx Gx 32 (g j) := bx
    refine W.widen (k := 47) (n := 812) (Nat.le_refl _) (Nat.le_refl _) ?_
    refine lv_iload_n hx hb dX6_init_56 rfl (lv_at hl 0 rfl) ?_
    refine lv_bipush (v := (20)) hx hb dX6_init_57 (by decide) ?_
    refine lv_icmp_ge (tgt := 83) hx hb dX6_init_59 (by decide) (fun _ => ?_) (fun c9 => absurd (by decide) c9)
    obtain ⟨Lk6, Gk6, hP, hD, xk6, uk6, mk6, kk6⟩ := cc_absorbRow (X := [(h0, .inr (6, [.ref q1, .ref q3, .ref q5, .ref q7, .ref q9]))]) (q := q5) (t := 4) (N := 20) g (fun i hi => if_pos hi) hP hD ux (h0, 2)
    have hP : va_P D vwCl (([(h0, .inr (6, [.ref q1, .ref q3, .ref q5, .ref q7, .ref q9]))] : va_W) ++ (cc_w C Lk6 Gk6 ++ ([] : va_W))) H := hP
    have hD : va_D A (([(h0, .inr (6, [.ref q1, .ref q3, .ref q5, .ref q7, .ref q9]))] : va_W) ++ (cc_w C Lk6 Gk6 ++ ([] : va_W))) := hD
    obtain ⟨Gf, hP, hD, nf, eG, xf⟩ := cc_absorb (X := []) (q := h0) (e := .inr (6, [.ref q1, .ref q3, .ref q5, .ref q7, .ref q9])) (e' := .inr (6, [.ref q1, .ref q3, .ref q5, .ref q7, .ref q9])) (.inl 6) (fun j => ([0, 0, 0, 0, 0] : List Int).getD j 0) (fun j => ([q1, q3, q5, q7, q9] : List Nat).getD j 0) (fun _ => 0) rfl (fun h => h) hP hD
    have fr : ∀ j : Nat, gr Gf h0 j = (fun j => ([q1, q3, q5, q7, q9] : List Nat).getD j 0) j := fun j => congrFun (congrArg (fun x : cG => x.2.2.1) eG) j
    have fz : ∀ j : Nat, gz Gf h0 j = (fun j => ([0, 0, 0, 0, 0] : List Int).getD j 0) j := fun j => congrFun (congrArg (fun x : cG => x.2.1) eG) j
    have fk : gK Gf h0 = .inl 6 := congrArg (fun x : cG => x.1) eG
    have hR : cc_R (h0 :: Lk6) Gf 6 h0 := ⟨⟨List.mem_cons_self, fk⟩, fun o => cc_U_imp (cc_U_obj uk6 nf xf o fk (fun F f1 fρ hd => ⟨cl_A xf (by decide) (fr 0) ((cx_t xk4 (cx_t xx xk6)) _ mk3).1 ((gK_e (cx_t xk4 (cx_t xx xk6)) mk3).trans kk3) (f1 _ _ (Or.inr (Or.inl (by rw [eOs]; exact Or.inr (Or.inl ⟨rfl, rfl⟩))))).2 fρ, cl_A xf (by decide) (fr 1) ((cx_t xx xk6) _ mk4).1 ((gK_e (cx_t xx xk6) mk4).trans kk4) (f1 _ _ (Or.inr (Or.inl (by rw [eOs]; exact Or.inl ⟨rfl, rfl⟩)))).2 fρ, cl_L xf (by decide) (fr 2) mk6 kk6 (f1 _ _ (Or.inl ⟨rfl, rfl⟩)).2 (fun i hi => cx_B xk6 (bx i hi)) (fun i hi => (f1 _ _ (Or.inr (Or.inr ⟨i, hi, rfl, rfl⟩))).2) fρ, cl_B xf (fr 3) (cx_B (cx_t xk2 (cx_t xk3 (cx_t xk4 (cx_t xx xk6)))) bk1) (f1 _ _ (Or.inr (Or.inl (by rw [eOs]; exact Or.inr (Or.inr (Or.inr (Or.inl ⟨rfl, rfl⟩))))))).2 fρ, cl_B xf (fr 4) (cx_B (cx_t xk3 (cx_t xk4 (cx_t xx xk6))) bk2) (f1 _ _ (Or.inr (Or.inl (by rw [eOs]; exact Or.inr (Or.inr (Or.inl ⟨rfl, rfl⟩)))))).2 fρ⟩)) (fun b o9 hb => Or.inl hb)⟩
    rw [List.nil_append, List.append_nil] at hP hD
    refine W.widen (k := 47) (n := 812) (by omega) (by omega) ?_
    exact W.vret hx hb hr (fun t ht hW => ⟨⟨(), rfl, trivial, _, _, hR, by rw [ht]; exact hP, va_K.moved hW.alike hK, hD⟩, hS.F ht⟩) hS.2.2 dX6_init_83
  · intro i x H locs ls hi hI ih
    obtain ⟨g, Lx, Gx⟩ := x
    obtain ⟨hP, hD, hS, hl, xx, ux, bx⟩ := hI
    have hP : va_P D vwCl (([(h0, .inr (6, [.ref q1, .ref q3, .ref q5, .ref q7, .ref q9])), (q5, .inl ((C 4), 20, .inr (.inr (.inr (.inr (cc_f i g))))))] : va_W) ++ (cc_w C Lx Gx ++ ([] : va_W))) H := hP
    have hD : va_D A (([(h0, .inr (6, [.ref q1, .ref q3, .ref q5, .ref q7, .ref q9])), (q5, .inl ((C 4), 20, .inr (.inr (.inr (.inr (cc_f i g))))))] : va_W) ++ (cc_w C Lx Gx ++ ([] : va_W))) := hD
    have hl : lv_has ls 2 [(1, .int (nI i)), (0, .ref h0)] := hl
    have ux : cc_U Lx Gx (fun b o => Os b o ∨ ∃ j, j < i ∧ b = g j ∧ o = (q5, j)) := ux
    have bx : ∀ j, j < i → cc_B Lx Gx 32 (g j) := bx
    refine W.widen (k := 7 + 2 * i) (n := 112 + 35 * i) (Nat.le_refl _) (Nat.le_refl _) ?_
    refine lv_iload_n hx hb dX6_init_56 rfl (lv_at hl 0 rfl) ?_
    refine lv_bipush (v := (20)) hx hb dX6_init_57 (by decide) ?_
    refine lv_icmp_ge (tgt := 83) hx hb dX6_init_59 (by decide) (fun c9 => absurd c9 (nI_ge (b := 20) hi (by decide))) (fun _ => ?_)
    refine lv_aload_n hx hb dX6_init_62 rfl (lv_at hl 1 rfl) ?_
    refine va_get (D := D) (ci := 6) (v := .ref q5) (C := RX6) (T := TX6) (N := 5) hx hb hts (fun w h => List.mem_cons_of_mem _ (List.mem_append_left _ (List.mem_append_right _ (h)))) hown hK hP 0 rfl rfl 2 (by decide) (hts (.fieldLink RX6 21 "HiddenMoves$Reply" "gains" "[LHiddenMoves$Big;") (List.mem_cons_of_mem _ (List.mem_append_left _ (List.mem_append_left _ (List.mem_of_getElem? (i := 8) rfl))))) (fun _ h9 => h9) rfl dX6_init_63 ?_
    refine lv_iload_n hx hb dX6_init_66 rfl (lv_at hl 0 rfl) ?_
    refine va_new (ci := 0) (fs := [.null, .int 0, .int 0]) (C := RX0) (T := TX0) (N := 3) hx hb hts (fun w h => List.mem_cons_of_mem _ (List.mem_append_right _ (h))) tyX0 tyX0_ok hown (hts (.classLink RX6 19 RX0) (List.mem_cons_of_mem _ (List.mem_append_left _ (List.mem_append_left _ (List.mem_of_getElem? (i := 7) rfl))))) (hts (.instantiable RX0 3) (List.mem_cons_of_mem _ (List.mem_append_left _ (List.mem_append_left _ (List.mem_of_getElem? (i := 9) rfl))))) (hts (.initialized RX0) (List.mem_cons_of_mem _ (List.mem_append_left _ (List.mem_append_left _ (List.mem_of_getElem? (i := 10) rfl))))) hK hP hD hS hA rfl (fun j hj => by rcases (show j = 0 ∨ j = 1 ∨ j = 2 by omega) with rfl | rfl | rfl <;> rfl) (by show 7 + 2 * i + 1 ≤ 47; omega) (by show 112 + 35 * i + 3 ≤ 812; omega) dX6_init_67 (fun q11 H hP hD hS => ?_)
    have hP := va_P.swap hP
    have hD := va_D.swap hD
    have hP : va_P D vwCl (([(h0, .inr (6, [.ref q1, .ref q3, .ref q5, .ref q7, .ref q9])), (q5, .inl ((C 4), 20, .inr (.inr (.inr (.inr (cc_f i g)))))), (q11, .inr (0, [.null, .int 0, .int 0]))] : va_W) ++ (cc_w C Lx Gx ++ ([] : va_W))) H := hP
    have hD : va_D A (([(h0, .inr (6, [.ref q1, .ref q3, .ref q5, .ref q7, .ref q9])), (q5, .inl ((C 4), 20, .inr (.inr (.inr (.inr (cc_f i g)))))), (q11, .inr (0, [.null, .int 0, .int 0]))] : va_W) ++ (cc_w C Lx Gx ++ ([] : va_W))) := hD
    refine W.widen (k := 7 + 2 * i + 1) (n := 112 + 35 * i + 3) (by omega) (by omega) ?_
    refine lv_dup hx hb dX6_init_70 rfl ?_
    refine lv_bipush (v := (32)) hx hb dX6_init_71 (by decide) ?_
    have hPc := hP.sub (ws' := [(q11, .inr (0, [.null, .int 0, .int 0]))]) [2] rfl
    have hDc := hD.sub (ws' := [(q11, .inr (0, [.null, .int 0, .int 0]))]) [2] (by decide) rfl
    have hFc := va_free (wc := [(q11, .inr (0, [.null, .int 0, .int 0]))]) hD hS hA [2] rfl
    refine va_callv (va_runI (As := [.int 32]) (rest := [.ref q11, .int (nI i), .ref q5]) ⟨hx, hb, hml, hown, hts⟩ (n_X0_init_32 l D C q11 _) (cwI 1 hts gX6_init_X0_init rfl rfl rfl (hts (.initialized RX0) (List.mem_cons_of_mem _ (List.mem_append_left _ (List.mem_append_left _ (List.mem_of_getElem? (i := 10) rfl))))) (hts (.methodLink RX6 25 yX0_init) (List.mem_cons_of_mem _ (List.mem_append_left _ (List.mem_append_left _ (List.mem_of_getElem? (i := 13) rfl))))) (hts (.instanceMethod yX0_init) (List.mem_cons_of_mem _ (List.mem_append_left _ (List.mem_append_left _ (List.mem_of_getElem? (i := 14) rfl))))) rfl (by decide +kernel) ⟨Nat.le_of_ble_eq_true rfl, Nat.le_of_ble_eq_true rfl⟩) ⟨hm_blind, hm_pre hPc hK hDc hE⟩ rfl rfl hl.1 rfl (lv_room (Nat.le_of_ble_eq_true rfl)) dX6_init_73 ⟨(by show 7 + 2 * i + 1 + 1 ≤ 47; omega), (by show 112 + 35 * i + 3 + 32 ≤ 812; omega)⟩) hS (fun q _ h => hFc q h) hFc (fun u t H1 locs ht hvm hw hB hz1 hk1 hS => ?_)
    obtain ⟨q12, hP1, hK1, hD1⟩ := hB
    rw [ht] at hP1
    obtain ⟨hP, hD⟩ := va_joinQ (X := [(h0, .inr (6, [.ref q1, .ref q3, .ref q5, .ref q7, .ref q9])), (q5, .inl ((C 4), 20, .inr (.inr (.inr (.inr (cc_f i g)))))), (q11, .inr (0, [.null, .int 0, .int 0]))]) (cx := [(q11, .inr (0, [.null, .int 0, .int 0]))]) (wr := [(h0, .inr (6, [.ref q1, .ref q3, .ref q5, .ref q7, .ref q9])), (q5, .inl ((C 4), 20, .inr (.inr (.inr (.inr (cc_f i g))))))]) (w1 := [(q11, .inr (0, [.ref q12, .int 0, .int 0])), (q12, .inl ((C 0), 32, .inl (fun _ => 0)))]) (pl := (cc_w C Lx Gx ++ ([] : va_W))) hP hD [2] [0, 1] rfl rfl (by decide) (by decide) hk1 hFc hP1 hD1
    generalize H1 = H at hP hS ⊢
    have hP : va_P D vwCl (([(h0, .inr (6, [.ref q1, .ref q3, .ref q5, .ref q7, .ref q9])), (q5, .inl ((C 4), 20, .inr (.inr (.inr (.inr (cc_f i g)))))), (q11, .inr (0, [.ref q12, .int 0, .int 0])), (q12, .inl ((C 0), 32, .inl (fun _ => 0)))] : va_W) ++ (cc_w C Lx Gx ++ ([] : va_W))) H := hP
    have hD : va_D A (([(h0, .inr (6, [.ref q1, .ref q3, .ref q5, .ref q7, .ref q9])), (q5, .inl ((C 4), 20, .inr (.inr (.inr (.inr (cc_f i g)))))), (q11, .inr (0, [.ref q12, .int 0, .int 0])), (q12, .inl ((C 0), 32, .inl (fun _ => 0)))] : va_W) ++ (cc_w C Lx Gx ++ ([] : va_W))) := hD
    refine W.widen (k := 7 + 2 * i + 1 + 1) (n := 112 + 35 * i + 3 + 32) (by omega) (by omega) ?_
    refine va_astq hx hb hK hP hD hS 1 4 2 0 rfl rfl rfl rfl (vp_in_nI hi (by omega)) dX6_init_76 (fun H locs hP hD hS => ?_)
    have hP : va_P D vwCl (([(h0, .inr (6, [.ref q1, .ref q3, .ref q5, .ref q7, .ref q9])), (q5, .inl ((C 4), 20, .inr (.inr (.inr (.inr (va_up (cc_f i g) (nI i).toNatClampNeg (some q11))))))), (q11, .inr (0, [.ref q12, .int 0, .int 0])), (q12, .inl ((C 0), 32, .inl (fun _ => 0)))] : va_W) ++ (cc_w C Lx Gx ++ ([] : va_W))) H := hP
    have hD : va_D A (([(h0, .inr (6, [.ref q1, .ref q3, .ref q5, .ref q7, .ref q9])), (q5, .inl ((C 4), 20, .inr (.inr (.inr (.inr (va_up (cc_f i g) (nI i).toNatClampNeg (some q11))))))), (q11, .inr (0, [.ref q12, .int 0, .int 0])), (q12, .inl ((C 0), 32, .inl (fun _ => 0)))] : va_W) ++ (cc_w C Lx Gx ++ ([] : va_W))) := hD
    obtain ⟨Lk7, Gk7, hP, hD, xk7, uk7, bk7⟩ := cc_absorbBig (X := [(h0, .inr (6, [.ref q1, .ref q3, .ref q5, .ref q7, .ref q9])), (q5, .inl ((C 4), 20, .inr (.inr (.inr (.inr (va_up (cc_f i g) (nI i).toNatClampNeg (some q11)))))))]) (b := q11) (d := q12) (n := 32) hP hD ux (by decide) (q5, i)
    have hP : va_P D vwCl (([(h0, .inr (6, [.ref q1, .ref q3, .ref q5, .ref q7, .ref q9])), (q5, .inl ((C 4), 20, .inr (.inr (.inr (.inr (va_up (cc_f i g) (nI i).toNatClampNeg (some q11)))))))] : va_W) ++ (cc_w C Lk7 Gk7 ++ ([] : va_W))) H := hP
    have hD : va_D A (([(h0, .inr (6, [.ref q1, .ref q3, .ref q5, .ref q7, .ref q9])), (q5, .inl ((C 4), 20, .inr (.inr (.inr (.inr (va_up (cc_f i g) (nI i).toNatClampNeg (some q11)))))))] : va_W) ++ (cc_w C Lk7 Gk7 ++ ([] : va_W))) := hD
    refine lv_iinc (v := nI (i + 1)) (lv' := [(1, .int (nI (i + 1))), (0, .ref h0)]) hx hb dX6_init_77 hl (k := 0) rfl (nI_1 i) (by decide) rfl (fun ls hl => ?_)
    refine lv_goto (tgt := 56) hx hb dX6_init_80 (by decide) ?_
    rw [cc_f1 (nI_clamp (by omega))] at hP hD
    have hP : va_P D vwCl (([(h0, .inr (6, [.ref q1, .ref q3, .ref q5, .ref q7, .ref q9])), (q5, .inl ((C 4), 20, .inr (.inr (.inr (.inr (cc_f (i + 1) (lp_U g i q11)))))))] : va_W) ++ (cc_w C Lk7 Gk7 ++ ([] : va_W))) H := hP
    have hD : va_D A (([(h0, .inr (6, [.ref q1, .ref q3, .ref q5, .ref q7, .ref q9])), (q5, .inl ((C 4), 20, .inr (.inr (.inr (.inr (cc_f (i + 1) (lp_U g i q11)))))))] : va_W) ++ (cc_w C Lk7 Gk7 ++ ([] : va_W))) := hD
    refine W.widen (k := 7 + 2 * (i + 1)) (n := 112 + 35 * (i + 1)) (by omega) (by omega) ?_
    refine ih (lp_U g i q11, Lk7, Gk7) _ _ _ ⟨hP, hD, hS, lv_sub hl [0, 1] rfl, cx_t xx xk7, cc_U_imp uk7 (fun b o hb => ?_), fun j hj => ?_⟩
    · rcases hb with hb | ⟨j, hj, hb, ho⟩
      · exact Or.inr (Or.inl hb)
      · dsimp only at hb
        by_cases e : j = i
        · subst e
          rw [lp_U_same] at hb
          exact Or.inl ⟨hb, ho⟩
        · rw [lp_U_other e] at hb
          exact Or.inr (Or.inr ⟨j, by omega, hb, ho⟩)
    · by_cases e : j = i
      · subst e
        show cc_B _ _ 32 (lp_U g j _ j)
        rw [lp_U_same]
        exact bk7
      · show cc_B _ _ 32 (lp_U g i _ j)
        rw [lp_U_other e]
        exact cx_B xk7 (bx j (by omega))
