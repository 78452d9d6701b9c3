-- 17.c10
noncomputable def wp_c8_leavesBefore_87 (L : List Nat) (K : Nat → cw_K) (z : Nat → Nat → Int) (r : Nat → Nat → Nat) (A : Nat → Nat → Int) (t0 : Int) (Q : Int → (Nat → Nat → Int) → (Nat → Nat → Int) → Prop) : Prop := (t0 = 0 ∨ t0 = 1) ∧ Q t0 z A
noncomputable def wp_c8_leavesBefore_86 (L : List Nat) (K : Nat → cw_K) (z : Nat → Nat → Int) (r : Nat → Nat → Nat) (A : Nat → Nat → Int) (Q : Int → (Nat → Nat → Int) → (Nat → Nat → Int) → Prop) : Prop := wp_c8_leavesBefore_87 L K z r A 0  Q
noncomputable def wp_c8_leavesBefore_82 (L : List Nat) (K : Nat → cw_K) (z : Nat → Nat → Int) (r : Nat → Nat → Nat) (A : Nat → Nat → Int) (Q : Int → (Nat → Nat → Int) → (Nat → Nat → Int) → Prop) : Prop := wp_c8_leavesBefore_87 L K z r A 1  Q
noncomputable def wp_c8_leavesBefore (L : List Nat) (K : Nat → cw_K) (z : Nat → Nat → Int) (r : Nat → Nat → Nat) (A : Nat → Nat → Int) (y0 : Nat) (y1 : Int) (y2 : Int) (y3 : Int) (Q : Int → (Nat → Nat → Int) → (Nat → Nat → Int) → Prop) : Prop := cw_O L K 8 y0 ∧ wp_c8_cell L K z r A y0 y1 (z y0 5) (fun rv_2 => wp_c8_cell L K z r A y0 y2 y3 (fun rv_3 => cw_O L K 0 (r y0 10) ∧ wp_c0_putProduct L K z r A (r y0 10) rv_2 rv_3 (fun z_5 A_6 => wp_c8_cell L K z_5 r A_6 y0 y2 (z_5 y0 5) (fun rv_8 => wp_c8_cell L K z_5 r A_6 y0 y1 y3 (fun rv_9 => cw_O L K 0 (r y0 11) ∧ wp_c0_putProduct L K z_5 r A_6 (r y0 11) rv_8 rv_9 (fun z_11 A_12 => wp_c0_order L K z_11 r A_12 (r y0 10) (r y0 11) (fun rv_14 => hz_rI rv_14 ∧ ((rv_14 < 0 → wp_c8_leavesBefore_82 L K z_11 r A_12  Q) ∧ (¬ (rv_14 < 0) → hz_rI rv_14 ∧ ((¬ rv_14 = 0 → wp_c8_leavesBefore_86 L K z_11 r A_12  Q) ∧ (rv_14 = 0 → cw_A L K 0 (r y0 1) ∧ ((0 : Int) ≤ y1 ∧ y1 < (cw_n K (r y0 1) : Int)) ∧ ((0 : Int) ≤ y2 ∧ y2 < (cw_n K (r y0 1) : Int)) ∧ hz_rI (A_12 (r y0 1) (y1.toNat)) ∧ hz_rI (A_12 (r y0 1) (y2.toNat)) ∧ ((A_12 (r y0 1) (y2.toNat) ≤ A_12 (r y0 1) (y1.toNat) → wp_c8_leavesBefore_86 L K z_11 r A_12  Q) ∧ (¬ (A_12 (r y0 1) (y2.toNat) ≤ A_12 (r y0 1) (y1.toNat)) → wp_c8_leavesBefore_82 L K z_11 r A_12  Q)))))))))))))
set_option maxHeartbeats 4000000 in
set_option maxRecDepth 100000 in
theorem k_c8_leavesBefore (l : Launch) (D : va_G) (sz : Nat) (C : Nat → ClassId) (L : List Nat) (K : Nat → cw_K) (z : Nat → Nat → Int) (r : Nat → Nat → Nat) (A : Nat → Nat → Int) (y0 : Nat) (y1 : Int) (y2 : Int) (y3 : Int) (Q : Int → (Nat → Nat → Int) → (Nat → Nat → Int) → Prop) (hw : wp_c8_leavesBefore L K z r A y0 y1 y2 y3 Q) : Met l yX8_leavesBefore wsX8_leavesBefore ({ frames := 3, cells := 0, slots := 0, locals := 73 } : Room) (va_Pc [.ref y0, .int (hz_i y1), .int (hz_i y2), .int (hz_i y3)] (hm_P D (cw_w C L K z r A) (cw_t C) sz)) (va_Qi (S := Int × (Nat → Nat → Int) × (Nat → Nat → Nat) × (Nat → Nat → Int)) (fun r u => r = hz_i u.1 ∧ Q u.1 u.2.1 u.2.2.2) (fun u t => hm_B D (va_A (cw_w C L K z r A) sz) (cw_w C L K u.2.1 r u.2.2.2) (cw_t C) t) (va_A (cw_w C L K z r A) sz)) 0 0 (va_A (cw_w C L K z r A) sz) := by
  refine Met.ofW (cc := cX8_leavesBefore) (maxL := 5) (ret := (some .boolean)) (by decide) rfl ?_
  intro p e s m args below meth c s₁ B hml hv
  obtain ⟨rfl, hsz, hP, hK, hD0, hE⟩ := hv
  have hx := B.exec
  have hb := B.bytes
  have hr := B.returns
  have hts := atoms_spec (ws := wsX8_leavesBefore) B.pre
  have hown : s.vm.findClass RX8 = some m.cls := findClass_of_methodNamed B.named
  have hlocks := B.notSynchronized
  have hin8 : ∀ w ∈ u_ws RX8 TX8 13, w ∈ wsX8_leavesBefore := fun w h => List.mem_cons_of_mem _ (List.mem_append_left _ (List.mem_append_right _ (h)))
  subst hsz
  have hD := hD0.self (sz := s.heap.size)
  generalize hAe : va_A (cw_w C L K z r A) s.heap.size = Ad at hD ⊢
  have hA : ∀ q : Nat, s.heap.size ≤ q → Ad q := fun q h => by rw [← hAe]; exact Or.inr h
  have hS : va_S Ad s.heap s.heap [] := va_S.rf
  have hl := lv_entry ([.ref y0, .int (hz_i y1), .int (hz_i y2), .int (hz_i y3)]) (n := 5) (Nat.le_of_ble_eq_true rfl)
  rw [lg_entry_eq]
  generalize (lg_sl ([.ref y0, .int (hz_i y1), .int (hz_i y2), .int (hz_i y3)]) ++ List.replicate (5 - (lg_sl ([.ref y0, .int (hz_i y1), .int (hz_i y2), .int (hz_i y3)])).length) Slot.unset).toArray = ls at hl ⊢
  have hl : lv_has ls 5 [(0, .ref y0), (1, .int (hz_i y1)), (2, .int (hz_i y2)), (3, .int (hz_i y3))] := hl
  refine mw_Q (fun QQ hQQ => ?_)
  have hP0 := hP; have hD0 := hD; have hS0 := hS; have hl0 := hl; have hw0 := hw
  clear hP hD hS hl hw
  have L87 : ∀ (z : Nat → Nat → Int) (A : Nat → Nat → Int) (t0 : Int), wp_c8_leavesBefore_87 L K z r A t0  Q → ∀ (H : Heap) (locs : List Loc) (ls : Array Slot), va_P D vwCl (cw_w C L K z r A) H → va_D Ad (cw_w C L K z r A) → va_S Ad s.heap H locs → lv_has ls 5 [] → W p l e (headSpec wsX8_leavesBefore ({ frames := 3, cells := 0, slots := 0, locals := 73 } : Room)).room s m (List.toArray [.ref y0, .int (hz_i y1), .int (hz_i y2), .int (hz_i y3)]) below meth c H locs 0 0 QQ (F0 m 87 ls [.int (hz_i t0)]) := by
    intro z A t0 hw H locs ls hP hD hS hl
    obtain ⟨h9z, hw⟩ := hw
    subst hQQ
    subst hAe
    exact W.zret (v := hz_i t0) hx hb hr (hz_tZ h9z) (fun t ht hW => ⟨⟨hz_i t0, (t0, z, r, A), rfl, ⟨rfl, hw⟩, by rw [ht]; exact hP, va_K.moved hW.alike hK, hD⟩, hS.F ht⟩) hS.2.2 dX8_leavesBefore_87
  have L86 : ∀ (z : Nat → Nat → Int) (A : Nat → Nat → Int), wp_c8_leavesBefore_86 L K z r A  Q → ∀ (H : Heap) (locs : List Loc) (ls : Array Slot), va_P D vwCl (cw_w C L K z r A) H → va_D Ad (cw_w C L K z r A) → va_S Ad s.heap H locs → lv_has ls 5 [] → W p l e (headSpec wsX8_leavesBefore ({ frames := 3, cells := 0, slots := 0, locals := 73 } : Room)).room s m (List.toArray [.ref y0, .int (hz_i y1), .int (hz_i y2), .int (hz_i y3)]) below meth c H locs 0 0 QQ (F0 m 86 ls []) := by
    intro z A hw H locs ls hP hD hS hl
    refine lv_iconst (v := hz_i 0) hx hb dX8_leavesBefore_86 (by decide +kernel) ?_
    exact L87 z A 0 hw H locs ls hP hD hS (lv_sub hl [] rfl)
  have L82 : ∀ (z : Nat → Nat → Int) (A : Nat → Nat → Int), wp_c8_leavesBefore_82 L K z r A  Q → ∀ (H : Heap) (locs : List Loc) (ls : Array Slot), va_P D vwCl (cw_w C L K z r A) H → va_D Ad (cw_w C L K z r A) → va_S Ad s.heap H locs → lv_has ls 5 [] → W p l e (headSpec wsX8_leavesBefore ({ frames := 3, cells := 0, slots := 0, locals := 73 } : Room)).room s m (List.toArray [.ref y0, .int (hz_i y1), .int (hz_i y2), .int (hz_i y3)]) below meth c H locs 0 0 QQ (F0 m 82 ls []) := by
    intro z A hw H locs ls hP hD hS hl
    refine lv_iconst (v := hz_i 1) hx hb dX8_leavesBefore_82 (by decide +kernel) ?_
    refine lv_goto (tgt := 87) hx hb dX8_leavesBefore_83 (by decide) ?_
    exact L87 z A 1 hw H locs ls hP hD hS (lv_sub hl [] rfl)
  have hP := hP0; have hD := hD0; have hS := hS0; have hl := hl0; have hw := hw0
  obtain ⟨H, hH⟩ : ∃ H : Heap, H = s.heap := ⟨_, rfl⟩
  obtain ⟨locs, hlocs⟩ : ∃ L : List Loc, L = [] := ⟨_, rfl⟩
  rw [← hH] at hP
  have hS : va_S Ad s.heap H locs := by rw [hH, hlocs]; exact hS
  refine mw_HL hH hlocs ?_
  refine lv_aload_n hx hb dX8_leavesBefore_0 rfl (lv_at hl 0 rfl) ?_
  obtain ⟨hO_1, hw⟩ := hw
  refine cw_get (ci := 8) (v := .ref (r y0 10)) hx hb hts hin8 hown hK hP hO_1.1 hO_1.2 rfl 10 (by decide) (hts (.fieldLink RX8 52 "HiddenMoves$Solver" "left" "LHiddenMoves$Big;") (List.mem_cons_of_mem _ (List.mem_append_left _ (List.mem_append_left _ (List.mem_append_left _ (List.mem_of_getElem? (i := 0) rfl)))))) (fun _ h9 => h9) rfl dX8_leavesBefore_1 ?_
  refine lv_aload_n hx hb dX8_leavesBefore_4 rfl (lv_at hl 0 rfl) ?_
  refine lv_iload_n hx hb dX8_leavesBefore_5 rfl (lv_at hl 1 rfl) ?_
  refine lv_aload_n hx hb dX8_leavesBefore_6 rfl (lv_at hl 0 rfl) ?_
  refine cw_get (ci := 8) (v := .int (hz_i (z y0 5))) hx hb hts hin8 hown hK hP hO_1.1 hO_1.2 rfl 5 (by decide) (hts (.fieldLink RX8 32 "HiddenMoves$Solver" "columns" "I") (List.mem_cons_of_mem _ (List.mem_append_left _ (List.mem_append_left _ (List.mem_append_left _ (List.mem_of_getElem? (i := 1) rfl)))))) (fun _ h9 => h9) rfl dX8_leavesBefore_7 ?_
  have hFc := cw_free hD hS hA
  obtain ⟨q9, hq9⟩ := cw_at (C := C) (z := z) (r := r) (A := A) hO_1.1 hO_1.2
  refine va_callr (va_runV (As := [.int (hz_i y1), .int (hz_i (z y0 5))]) (rest := [.ref (r y0 10)]) ⟨hx, hb, hml, hown, hts⟩ (k_c8_cell l D _ C L K z r A y0 y1 (z y0 5) _ hw) (cwV 2 hts gX8_leavesBefore_X8_cell rfl rfl rfl (by decide +kernel) ⟨Nat.le_of_ble_eq_true rfl, Nat.le_of_ble_eq_true rfl⟩) ⟨hm_blind, va_recv hK hP (ci := 8) (q0 := q9) rfl hq9, hm_pre hP hK hD hE⟩ rfl rfl hl.1 rfl (lv_room (Nat.le_of_ble_eq_true rfl)) dX8_leavesBefore_10 ⟨Nat.le_of_ble_eq_true rfl, Nat.le_of_ble_eq_true rfl⟩) hS (fun q _ h => hFc q h) hFc (fun u ra t H1 locs ht hvm hw hB hz1 hk1 hS => ?_)
  obtain ⟨rv_2, _, _, _⟩ := u
  obtain ⟨hra, hP, hK1, hD1⟩ := hB
  have hra := hra.symm
  subst hra
  rw [ht] at hP
  have hD := hD1.weaken (fun k q _ h => hFc q.1 h)
  have hP : va_P D vwCl (cw_w C L K z r A) H1 := hP
  have hD : va_D Ad (cw_w C L K z r A) := hD
  generalize H1 = H at hP hS ⊢
  refine W.eq (g2 := F0 m 13 ls [.ref rv_2, .ref (r y0 10)]) rfl ?_
  refine lv_aload_n hx hb dX8_leavesBefore_13 rfl (lv_at hl 0 rfl) ?_
  refine lv_iload_n hx hb dX8_leavesBefore_14 rfl (lv_at hl 2 rfl) ?_
  refine lv_iload_n hx hb dX8_leavesBefore_15 rfl (lv_at hl 3 rfl) ?_
  have hFc := cw_free hD hS hA
  obtain ⟨q9, hq9⟩ := cw_at (C := C) (z := z) (r := r) (A := A) hO_1.1 hO_1.2
  refine va_callr (va_runV (As := [.int (hz_i y2), .int (hz_i y3)]) (rest := [.ref rv_2, .ref (r y0 10)]) ⟨hx, hb, hml, hown, hts⟩ (k_c8_cell l D _ C L K z r A y0 y2 y3 _ hw) (cwV 2 hts gX8_leavesBefore_X8_cell rfl rfl rfl (by decide +kernel) ⟨Nat.le_of_ble_eq_true rfl, Nat.le_of_ble_eq_true rfl⟩) ⟨hm_blind, va_recv hK hP (ci := 8) (q0 := q9) rfl hq9, hm_pre hP hK hD hE⟩ rfl rfl hl.1 rfl (lv_room (Nat.le_of_ble_eq_true rfl)) dX8_leavesBefore_16 ⟨Nat.le_of_ble_eq_true rfl, Nat.le_of_ble_eq_true rfl⟩) hS (fun q _ h => hFc q h) hFc (fun u ra t H1 locs ht hvm hw hB hz1 hk1 hS => ?_)
  obtain ⟨rv_3, _, _, _⟩ := u
  obtain ⟨hra, hP, hK1, hD1⟩ := hB
  have hra := hra.symm
  subst hra
  rw [ht] at hP
  have hD := hD1.weaken (fun k q _ h => hFc q.1 h)
  have hP : va_P D vwCl (cw_w C L K z r A) H1 := hP
  have hD : va_D Ad (cw_w C L K z r A) := hD
  generalize H1 = H at hP hS ⊢
  refine W.eq (g2 := F0 m 19 ls [.ref rv_3, .ref rv_2, .ref (r y0 10)]) rfl ?_
  obtain ⟨hO_7, hw⟩ := hw
  have hFc := cw_free hD hS hA
  obtain ⟨q9, hq9⟩ := cw_at (C := C) (z := z) (r := r) (A := A) hO_7.1 hO_7.2
  refine va_callv (va_runV (As := [.ref rv_2, .ref rv_3]) (rest := []) ⟨hx, hb, hml, hown, hts⟩ (k_c0_putProduct l D _ C L K z r A (r y0 10) rv_2 rv_3 _ hw) (cwV 2 hts gX8_leavesBefore_X0_putProduct rfl rfl rfl (by decide +kernel) ⟨Nat.le_of_ble_eq_true rfl, Nat.le_of_ble_eq_true rfl⟩) ⟨hm_blind, va_recv hK hP (ci := 0) (q0 := q9) rfl hq9, hm_pre hP hK hD hE⟩ rfl rfl hl.1 rfl (lv_room (Nat.le_of_ble_eq_true rfl)) dX8_leavesBefore_19 ⟨Nat.le_of_ble_eq_true rfl, Nat.le_of_ble_eq_true rfl⟩) hS (fun q _ h => hFc q h) hFc (fun u t H1 locs ht hvm hw hB hz1 hk1 hS => ?_)
  obtain ⟨rv_4, z_5, _, A_6⟩ := u
  obtain ⟨hP, hK1, hD1⟩ := hB
  rw [ht] at hP
  have hD := hD1.weaken (fun k q _ h => hFc q.1 h)
  have hP : va_P D vwCl (cw_w C L K z_5 r A_6) H1 := hP
  have hD : va_D Ad (cw_w C L K z_5 r A_6) := hD
  generalize H1 = H at hP hS ⊢
  refine W.eq (g2 := F0 m 22 ls []) rfl ?_
  refine lv_aload_n hx hb dX8_leavesBefore_22 rfl (lv_at hl 0 rfl) ?_
  refine cw_get (ci := 8) (v := .ref (r y0 11)) hx hb hts hin8 hown hK hP hO_1.1 hO_1.2 rfl 11 (by decide) (hts (.fieldLink RX8 55 "HiddenMoves$Solver" "right" "LHiddenMoves$Big;") (List.mem_cons_of_mem _ (List.mem_append_left _ (List.mem_append_left _ (List.mem_append_left _ (List.mem_of_getElem? (i := 2) rfl)))))) (fun _ h9 => h9) rfl dX8_leavesBefore_23 ?_
  refine lv_aload_n hx hb dX8_leavesBefore_26 rfl (lv_at hl 0 rfl) ?_
  refine lv_iload_n hx hb dX8_leavesBefore_27 rfl (lv_at hl 2 rfl) ?_
  refine lv_aload_n hx hb dX8_leavesBefore_28 rfl (lv_at hl 0 rfl) ?_
  refine cw_get (ci := 8) (v := .int (hz_i (z_5 y0 5))) hx hb hts hin8 hown hK hP hO_1.1 hO_1.2 rfl 5 (by decide) (hts (.fieldLink RX8 32 "HiddenMoves$Solver" "columns" "I") (List.mem_cons_of_mem _ (List.mem_append_left _ (List.mem_append_left _ (List.mem_append_left _ (List.mem_of_getElem? (i := 1) rfl)))))) (fun _ h9 => h9) rfl dX8_leavesBefore_29 ?_
  have hFc := cw_free hD hS hA
  obtain ⟨q9, hq9⟩ := cw_at (C := C) (z := z_5) (r := r) (A := A_6) hO_1.1 hO_1.2
  refine va_callr (va_runV (As := [.int (hz_i y2), .int (hz_i (z_5 y0 5))]) (rest := [.ref (r y0 11)]) ⟨hx, hb, hml, hown, hts⟩ (k_c8_cell l D _ C L K z_5 r A_6 y0 y2 (z_5 y0 5) _ hw) (cwV 2 hts gX8_leavesBefore_X8_cell rfl rfl rfl (by decide +kernel) ⟨Nat.le_of_ble_eq_true rfl, Nat.le_of_ble_eq_true rfl⟩) ⟨hm_blind, va_recv hK hP (ci := 8) (q0 := q9) rfl hq9, hm_pre hP hK hD hE⟩ rfl rfl hl.1 rfl (lv_room (Nat.le_of_ble_eq_true rfl)) dX8_leavesBefore_32 ⟨Nat.le_of_ble_eq_true rfl, Nat.le_of_ble_eq_true rfl⟩) hS (fun q _ h => hFc q h) hFc (fun u ra t H1 locs ht hvm hw hB hz1 hk1 hS => ?_)
  obtain ⟨rv_8, _, _, _⟩ := u
  obtain ⟨hra, hP, hK1, hD1⟩ := hB
  have hra := hra.symm
  subst hra
  rw [ht] at hP
  have hD := hD1.weaken (fun k q _ h => hFc q.1 h)
  have hP : va_P D vwCl (cw_w C L K z_5 r A_6) H1 := hP
  have hD : va_D Ad (cw_w C L K z_5 r A_6) := hD
  generalize H1 = H at hP hS ⊢
  refine W.eq (g2 := F0 m 35 ls [.ref rv_8, .ref (r y0 11)]) rfl ?_
  refine lv_aload_n hx hb dX8_leavesBefore_35 rfl (lv_at hl 0 rfl) ?_
  refine lv_iload_n hx hb dX8_leavesBefore_36 rfl (lv_at hl 1 rfl) ?_
  refine lv_iload_n hx hb dX8_leavesBefore_37 rfl (lv_at hl 3 rfl) ?_
  have hFc := cw_free hD hS hA
  obtain ⟨q9, hq9⟩ := cw_at (C := C) (z := z_5) (r := r) (A := A_6) hO_1.1 hO_1.2
  refine va_callr (va_runV (As := [.int (hz_i y1), .int (hz_i y3)]) (rest := [.ref rv_8, .ref (r y0 11)]) ⟨hx, hb, hml, hown, hts⟩ (k_c8_cell l D _ C L K z_5 r A_6 y0 y1 y3 _ hw) (cwV 2 hts gX8_leavesBefore_X8_cell rfl rfl rfl (by decide +kernel) ⟨Nat.le_of_ble_eq_true rfl, Nat.le_of_ble_eq_true rfl⟩) ⟨hm_blind, va_recv hK hP (ci := 8) (q0 := q9) rfl hq9, hm_pre hP hK hD hE⟩ rfl rfl hl.1 rfl (lv_room (Nat.le_of_ble_eq_true rfl)) dX8_leavesBefore_38 ⟨Nat.le_of_ble_eq_true rfl, Nat.le_of_ble_eq_true rfl⟩) hS (fun q _ h => hFc q h) hFc (fun u ra t H1 locs ht hvm hw hB hz1 hk1 hS => ?_)
  obtain ⟨rv_9, _, _, _⟩ := u
  obtain ⟨hra, hP, hK1, hD1⟩ := hB
  have hra := hra.symm
  subst hra
  rw [ht] at hP
  have hD := hD1.weaken (fun k q _ h => hFc q.1 h)
  have hP : va_P D vwCl (cw_w C L K z_5 r A_6) H1 := hP
  have hD : va_D Ad (cw_w C L K z_5 r A_6) := hD
  generalize H1 = H at hP hS ⊢
  refine W.eq (g2 := F0 m 41 ls [.ref rv_9, .ref rv_8, .ref (r y0 11)]) rfl ?_
  obtain ⟨hO_13, hw⟩ := hw
  have hFc := cw_free hD hS hA
  obtain ⟨q9, hq9⟩ := cw_at (C := C) (z := z_5) (r := r) (A := A_6) hO_13.1 hO_13.2
  refine va_callv (va_runV (As := [.ref rv_8, .ref rv_9]) (rest := []) ⟨hx, hb, hml, hown, hts⟩ (k_c0_putProduct l D _ C L K z_5 r A_6 (r y0 11) rv_8 rv_9 _ hw) (cwV 2 hts gX8_leavesBefore_X0_putProduct rfl rfl rfl (by decide +kernel) ⟨Nat.le_of_ble_eq_true rfl, Nat.le_of_ble_eq_true rfl⟩) ⟨hm_blind, va_recv hK hP (ci := 0) (q0 := q9) rfl hq9, hm_pre hP hK hD hE⟩ rfl rfl hl.1 rfl (lv_room (Nat.le_of_ble_eq_true rfl)) dX8_leavesBefore_41 ⟨Nat.le_of_ble_eq_true rfl, Nat.le_of_ble_eq_true rfl⟩) hS (fun q _ h => hFc q h) hFc (fun u t H1 locs ht hvm hw hB hz1 hk1 hS => ?_)
  obtain ⟨rv_10, z_11, _, A_12⟩ := u
  obtain ⟨hP, hK1, hD1⟩ := hB
  rw [ht] at hP
  have hD := hD1.weaken (fun k q _ h => hFc q.1 h)
  have hP : va_P D vwCl (cw_w C L K z_11 r A_12) H1 := hP
  have hD : va_D Ad (cw_w C L K z_11 r A_12) := hD
  generalize H1 = H at hP hS ⊢
  refine W.eq (g2 := F0 m 44 ls []) rfl ?_
  refine lv_aload_n hx hb dX8_leavesBefore_44 rfl (lv_at hl 0 rfl) ?_
  refine cw_get (ci := 8) (v := .ref (r y0 10)) hx hb hts hin8 hown hK hP hO_1.1 hO_1.2 rfl 10 (by decide) (hts (.fieldLink RX8 52 "HiddenMoves$Solver" "left" "LHiddenMoves$Big;") (List.mem_cons_of_mem _ (List.mem_append_left _ (List.mem_append_left _ (List.mem_append_left _ (List.mem_of_getElem? (i := 0) rfl)))))) (fun _ h9 => h9) rfl dX8_leavesBefore_45 ?_
  refine lv_aload_n hx hb dX8_leavesBefore_48 rfl (lv_at hl 0 rfl) ?_
  refine cw_get (ci := 8) (v := .ref (r y0 11)) hx hb hts hin8 hown hK hP hO_1.1 hO_1.2 rfl 11 (by decide) (hts (.fieldLink RX8 55 "HiddenMoves$Solver" "right" "LHiddenMoves$Big;") (List.mem_cons_of_mem _ (List.mem_append_left _ (List.mem_append_left _ (List.mem_append_left _ (List.mem_of_getElem? (i := 2) rfl)))))) (fun _ h9 => h9) rfl dX8_leavesBefore_49 ?_
  have hFc := cw_free hD hS hA
  obtain ⟨q9, hq9⟩ := cw_at (C := C) (z := z_11) (r := r) (A := A_12) hO_7.1 hO_7.2
  refine va_calli (va_runV (As := [.ref (r y0 11)]) (rest := []) ⟨hx, hb, hml, hown, hts⟩ (k_c0_order l D _ C L K z_11 r A_12 (r y0 10) (r y0 11) _ hw) (cwV 1 hts gX8_leavesBefore_X0_order rfl rfl rfl (by decide +kernel) ⟨Nat.le_of_ble_eq_true rfl, Nat.le_of_ble_eq_true rfl⟩) ⟨hm_blind, va_recv hK hP (ci := 0) (q0 := q9) rfl hq9, hm_pre hP hK hD hE⟩ rfl rfl hl.1 rfl (lv_room (Nat.le_of_ble_eq_true rfl)) dX8_leavesBefore_52 ⟨Nat.le_of_ble_eq_true rfl, Nat.le_of_ble_eq_true rfl⟩) hS (fun q _ h => hFc q h) hFc (fun rv u t H1 locs ht hvm hw hB hz1 hk1 hS => ?_)
  obtain ⟨rv_14, _, _, _⟩ := u
  obtain ⟨hP, hK1, hD1⟩ := hB
  rw [ht] at hP
  obtain ⟨hrv, hw⟩ := hw
  subst hrv
  have hD := hD1.weaken (fun k q _ h => hFc q.1 h)
  have hP : va_P D vwCl (cw_w C L K z_11 r A_12) H1 := hP
  have hD : va_D Ad (cw_w C L K z_11 r A_12) := hD
  generalize H1 = H at hP hS ⊢
  refine W.eq (g2 := F0 m 55 ls [.int (hz_i rv_14)]) rfl ?_
  refine lv_istore (lv' := [(4, .int (hz_i rv_14)), (0, .ref y0), (1, .int (hz_i y1)), (2, .int (hz_i y2)), (3, .int (hz_i y3))]) hx hb dX8_leavesBefore_55 hl (by decide) rfl (fun ls hl => ?_)
  refine lv_iload hx hb dX8_leavesBefore_57 (lv_at hl 0 rfl) ?_
  obtain ⟨h9a, hw⟩ := hw
  refine hz_if_lt (tgt := 82) hx hb dX8_leavesBefore_59 (by decide) h9a (fun c_15 => ?_) (fun c_15 => ?_)
  · have hw := hw.1 c_15
    exact L82 z_11 A_12 hw H locs ls hP hD hS (lv_sub hl [] rfl)
  · have hw := hw.2 c_15
    refine lv_iload hx hb dX8_leavesBefore_62 (lv_at hl 0 rfl) ?_
    obtain ⟨h9a, hw⟩ := hw
    refine hz_if_ne (tgt := 86) hx hb dX8_leavesBefore_64 (by decide) h9a (fun c_16 => ?_) (fun c_16 => ?_)
    · have hw := hw.1 c_16
      exact L86 z_11 A_12 hw H locs ls hP hD hS (lv_sub hl [] rfl)
    · have hw := hw.2 c_16
      refine lv_aload_n hx hb dX8_leavesBefore_67 rfl (lv_at hl 1 rfl) ?_
      refine cw_get (ci := 8) (v := .ref (r y0 1)) hx hb hts hin8 hown hK hP hO_1.1 hO_1.2 rfl 1 (by decide) (hts (.fieldLink RX8 17 "HiddenMoves$Solver" "rowUnknowns" "[I") (List.mem_cons_of_mem _ (List.mem_append_left _ (List.mem_append_left _ (List.mem_append_left _ (List.mem_of_getElem? (i := 3) rfl)))))) (fun _ h9 => h9) rfl dX8_leavesBefore_68 ?_
      refine lv_iload_n hx hb dX8_leavesBefore_71 rfl (lv_at hl 2 rfl) ?_
      obtain ⟨hO_17, hw⟩ := hw
      obtain ⟨h9i, hw⟩ := hw
      refine cw_ild hx hb hK hP hO_17.1 hO_17.2.2 h9i hO_17.2.1 dX8_leavesBefore_72 ?_
      refine lv_aload_n hx hb dX8_leavesBefore_73 rfl (lv_at hl 1 rfl) ?_
      refine cw_get (ci := 8) (v := .ref (r y0 1)) hx hb hts hin8 hown hK hP hO_1.1 hO_1.2 rfl 1 (by decide) (hts (.fieldLink RX8 17 "HiddenMoves$Solver" "rowUnknowns" "[I") (List.mem_cons_of_mem _ (List.mem_append_left _ (List.mem_append_left _ (List.mem_append_left _ (List.mem_of_getElem? (i := 3) rfl)))))) (fun _ h9 => h9) rfl dX8_leavesBefore_74 ?_
      refine lv_iload_n hx hb dX8_leavesBefore_77 rfl (lv_at hl 3 rfl) ?_
      obtain ⟨h9i, hw⟩ := hw
      refine cw_ild hx hb hK hP hO_17.1 hO_17.2.2 h9i hO_17.2.1 dX8_leavesBefore_78 ?_
      obtain ⟨h9a, hw⟩ := hw
      obtain ⟨h9b, hw⟩ := hw
      refine hz_icmp_ge (tgt := 86) hx hb dX8_leavesBefore_79 (by decide) h9a h9b (fun c_18 => ?_) (fun c_18 => ?_)
      · have hw := hw.1 c_18
        exact L86 z_11 A_12 hw H locs ls hP hD hS (lv_sub hl [] rfl)
      · have hw := hw.2 c_18
        exact L82 z_11 A_12 hw H locs ls hP hD hS (lv_sub hl [] rfl)

noncomputable def wp_c8_leaving_41 (L : List Nat) (K : Nat → cw_K) (z : Nat → Nat → Int) (r : Nat → Nat → Nat) (A : Nat → Nat → Int) (y0 : Nat) (y1 : Int) (x2 : Int) (x3 : Int) (P4 : (Nat → Nat → Int) → (Nat → Nat → Int) → Int → Int → Prop) (Q : Int → (Nat → Nat → Int) → (Nat → Nat → Int) → Prop) : Prop := ∀ x3_1 : Int, x3_1 = x3 + 1 → P4 z A x2 x3_1
noncomputable def wp_c8_leaving_39 (L : List Nat) (K : Nat → cw_K) (z : Nat → Nat → Int) (r : Nat → Nat → Nat) (A : Nat → Nat → Int) (y0 : Nat) (y1 : Int) (x3 : Int) (P4 : (Nat → Nat → Int) → (Nat → Nat → Int) → Int → Int → Prop) (Q : Int → (Nat → Nat → Int) → (Nat → Nat → Int) → Prop) : Prop := wp_c8_leaving_41 L K z r A y0 y1 x3 x3 P4 Q
noncomputable def wp_c8_leaving_4 (L : List Nat) (K : Nat → cw_K) (z : Nat → Nat → Int) (r : Nat → Nat → Nat) (A : Nat → Nat → Int) (y0 : Nat) (y1 : Int) (x2 : Int) (x3 : Int) (Q : Int → (Nat → Nat → Int) → (Nat → Nat → Int) → Prop) : Prop := ∀ P4 : (Nat → Nat → Int) → (Nat → Nat → Int) → Int → Int → Prop, (∀ (z : Nat → Nat → Int) (A : Nat → Nat → Int) (x2 : Int) (x3 : Int), cw_O L K 8 y0 ∧ hz_rI x3 ∧ hz_rI (z y0 4) ∧ ((z y0 4 ≤ x3 → Q x2 z A) ∧ (¬ (z y0 4 ≤ x3) → wp_c8_cell L K z r A y0 x3 y1 (fun rv_4 => cw_O L K 0 rv_4 ∧ wp_c0_sign L K z r A rv_4 (fun rv_5 => hz_rI rv_5 ∧ ((rv_5 ≤ 0 → wp_c8_leaving_41 L K z r A y0 y1 x2 x3 P4 Q) ∧ (¬ (rv_5 ≤ 0) → hz_rI x2 ∧ ((x2 = (-1) → wp_c8_leaving_39 L K z r A y0 y1 x3 P4 Q) ∧ (¬ (x2 = (-1)) → wp_c8_leavesBefore L K z r A y0 x3 x2 y1 (fun rv_9 z_10 A_11 => hz_rI rv_9 ∧ ((rv_9 = 0 → wp_c8_leaving_41 L K z_10 r A_11 y0 y1 x2 x3 P4 Q) ∧ (¬ (rv_9 = 0) → wp_c8_leaving_39 L K z_10 r A_11 y0 y1 x3 P4 Q))))))))))) → P4 z A x2 x3) → P4 z A x2 x3
noncomputable def wp_c8_leaving (L : List Nat) (K : Nat → cw_K) (z : Nat → Nat → Int) (r : Nat → Nat → Nat) (A : Nat → Nat → Int) (y0 : Nat) (y1 : Int) (Q : Int → (Nat → Nat → Int) → (Nat → Nat → Int) → Prop) : Prop := wp_c8_leaving_4 L K z r A y0 y1 (-1) 0  Q
set_option maxHeartbeats 4000000 in
set_option maxRecDepth 100000 in
theorem k_c8_leaving (l : Launch) (D : va_G) (sz : Nat) (C : Nat → ClassId) (L : List Nat) (K : Nat → cw_K) (z : Nat → Nat → Int) (r : Nat → Nat → Nat) (A : Nat → Nat → Int) (y0 : Nat) (y1 : Int) (Q : Int → (Nat → Nat → Int) → (Nat → Nat → Int) → Prop) (hw : wp_c8_leaving L K z r A y0 y1 Q) : Met l yX8_leaving wsX8_leaving ({ frames := 4, cells := 0, slots := 0, locals := 97 } : Room) (va_Pc [.ref y0, .int (hz_i y1)] (hm_P D (cw_w C L K z r A) (cw_t C) sz)) (va_Qi (S := Int × (Nat → Nat → Int) × (Nat → Nat → Nat) × (Nat → Nat → Int)) (fun r u => r = hz_i u.1 ∧ Q u.1 u.2.1 u.2.2.2) (fun u t => hm_B D (va_A (cw_w C L K z r A) sz) (cw_w C L K u.2.1 r u.2.2.2) (cw_t C) t) (va_A (cw_w C L K z r A) sz)) 0 0 (va_A (cw_w C L K z r A) sz) := by
  refine Met.ofW (cc := cX8_leaving) (maxL := 4) (ret := (some .int)) (by decide) rfl ?_
  intro p e s m args below meth c s₁ B hml hv
  obtain ⟨rfl, hsz, hP, hK, hD0, hE⟩ := hv
  have hx := B.exec
  have hb := B.bytes
  have hr := B.returns
  have hts := atoms_spec (ws := wsX8_leaving) B.pre
  have hown : s.vm.findClass RX8 = some m.cls := findClass_of_methodNamed B.named
  have hlocks := B.notSynchronized
  have hin8 : ∀ w ∈ u_ws RX8 TX8 13, w ∈ wsX8_leaving := fun w h => List.mem_cons_of_mem _ (List.mem_append_left _ (List.mem_append_right _ (h)))
  subst hsz
  have hD := hD0.self (sz := s.heap.size)
  generalize hAe : va_A (cw_w C L K z r A) s.heap.size = Ad at hD ⊢
  have hA : ∀ q : Nat, s.heap.size ≤ q → Ad q := fun q h => by rw [← hAe]; exact Or.inr h
  have hS : va_S Ad s.heap s.heap [] := va_S.rf
  have hl := lv_entry ([.ref y0, .int (hz_i y1)]) (n := 4) (Nat.le_of_ble_eq_true rfl)
  rw [lg_entry_eq]
  generalize (lg_sl ([.ref y0, .int (hz_i y1)]) ++ List.replicate (4 - (lg_sl ([.ref y0, .int (hz_i y1)])).length) Slot.unset).toArray = ls at hl ⊢
  have hl : lv_has ls 4 [(0, .ref y0), (1, .int (hz_i y1))] := hl
  refine mw_Q (fun QQ hQQ => ?_)
  have hP0 := hP; have hD0 := hD; have hS0 := hS; have hl0 := hl; have hw0 := hw
  clear hP hD hS hl hw
  have L4 : ∀ (z : Nat → Nat → Int) (A : Nat → Nat → Int) (x2 : Int) (x3 : Int), wp_c8_leaving_4 L K z r A y0 y1 x2 x3  Q → ∀ (H : Heap) (locs : List Loc) (ls : Array Slot), va_P D vwCl (cw_w C L K z r A) H → va_D Ad (cw_w C L K z r A) → va_S Ad s.heap H locs → lv_has ls 4 [(0, .ref y0), (1, .int (hz_i y1)), (2, .int (hz_i x2)), (3, .int (hz_i x3))] → W p l e (headSpec wsX8_leaving ({ frames := 4, cells := 0, slots := 0, locals := 97 } : Room)).room s m (List.toArray [.ref y0, .int (hz_i y1)]) below meth c H locs 0 0 QQ (F0 m 4 ls []) := by
    intro z A x2 x3 hw
    obtain ⟨P4, hP4⟩ : ∃ P : (Nat → Nat → Int) → (Nat → Nat → Int) → Int → Int → Prop, ∀ (z : Nat → Nat → Int) (A : Nat → Nat → Int) (x2 : Int) (x3 : Int), P z A x2 x3 ↔ (∀ (H : Heap) (locs : List Loc) (ls : Array Slot), va_P D vwCl (cw_w C L K z r A) H → va_D Ad (cw_w C L K z r A) → va_S Ad s.heap H locs → lv_has ls 4 [(0, .ref y0), (1, .int (hz_i y1)), (2, .int (hz_i x2)), (3, .int (hz_i x3))] → W p l e (headSpec wsX8_leaving ({ frames := 4, cells := 0, slots := 0, locals := 97 } : Room)).room s m (List.toArray [.ref y0, .int (hz_i y1)]) below meth c H locs 0 0 QQ (F0 m 4 ls [])) := ⟨fun (z : Nat → Nat → Int) (A : Nat → Nat → Int) (x2 : Int) (x3 : Int) => ∀ (H : Heap) (locs : List Loc) (ls : Array Slot), va_P D vwCl (cw_w C L K z r A) H → va_D Ad (cw_w C L K z r A) → va_S Ad s.heap H locs → lv_has ls 4 [(0, .ref y0), (1, .int (hz_i y1)), (2, .int (hz_i x2)), (3, .int (hz_i x3))] → W p l e (headSpec wsX8_leaving ({ frames := 4, cells := 0, slots := 0, locals := 97 } : Room)).room s m (List.toArray [.ref y0, .int (hz_i y1)]) below meth c H locs 0 0 QQ (F0 m 4 ls []), fun _ _ _ _ => Iff.rfl⟩
    refine (hP4 z A x2 x3).mp (hw P4 ?_)
    intro z A x2 x3 hw
    refine (hP4 z A x2 x3).mpr ?_
    intro H locs ls hP hD hS hl
    have L41 : ∀ (z : Nat → Nat → Int) (A : Nat → Nat → Int) (x2 : Int) (x3 : Int), wp_c8_leaving_41 L K z r A y0 y1 x2 x3 P4 Q → ∀ (H : Heap) (locs : List Loc) (ls : Array Slot), va_P D vwCl (cw_w C L K z r A) H → va_D Ad (cw_w C L K z r A) → va_S Ad s.heap H locs → lv_has ls 4 [(0, .ref y0), (1, .int (hz_i y1)), (2, .int (hz_i x2)), (3, .int (hz_i x3))] → W p l e (headSpec wsX8_leaving ({ frames := 4, cells := 0, slots := 0, locals := 97 } : Room)).room s m (List.toArray [.ref y0, .int (hz_i y1)]) below meth c H locs 0 0 QQ (F0 m 41 ls []) := by
      intro z A x2 x3 hw H locs ls hP hD hS hl
      obtain ⟨x3_1, hx3_1⟩ : ∃ y : Int, y = x3 + 1 := ⟨_, rfl⟩
      have hw := hw x3_1 hx3_1
      refine lv_iinc (v := hz_i x3_1) (lv' := [(3, .int (hz_i x3_1)), (0, .ref y0), (1, .int (hz_i y1)), (2, .int (hz_i x2))]) hx hb dX8_leaving_41 hl (k := 3) rfl (by rw [hx3_1]; exact hz_i_add _ _) (by decide) rfl (fun ls hl => ?_)
      refine lv_goto (tgt := 4) hx hb dX8_leaving_44 (by decide) ?_
      exact (hP4 z A x2 x3_1).mp hw H locs ls hP hD hS (lv_sub hl [1, 2, 3, 0] rfl)
    have L39 : ∀ (z : Nat → Nat → Int) (A : Nat → Nat → Int) (x3 : Int), wp_c8_leaving_39 L K z r A y0 y1 x3 P4 Q → ∀ (H : Heap) (locs : List Loc) (ls : Array Slot), va_P D vwCl (cw_w C L K z r A) H → va_D Ad (cw_w C L K z r A) → va_S Ad s.heap H locs → lv_has ls 4 [(0, .ref y0), (1, .int (hz_i y1)), (3, .int (hz_i x3))] → W p l e (headSpec wsX8_leaving ({ frames := 4, cells := 0, slots := 0, locals := 97 } : Room)).room s m (List.toArray [.ref y0, .int (hz_i y1)]) below meth c H locs 0 0 QQ (F0 m 39 ls []) := by
      intro z A x3 hw H locs ls hP hD hS hl
      refine lv_iload_n hx hb dX8_leaving_39 rfl (lv_at hl 2 rfl) ?_
      refine lv_istore_n (lv' := [(2, .int (hz_i x3)), (0, .ref y0), (1, .int (hz_i y1)), (3, .int (hz_i x3))]) hx hb dX8_leaving_40 rfl hl (by decide) rfl (fun ls hl => ?_)
      exact L41 z A x3 x3 hw H locs ls hP hD hS (lv_sub hl [1, 2, 0, 3] rfl)
    refine lv_iload_n hx hb dX8_leaving_4 rfl (lv_at hl 3 rfl) ?_
    refine lv_aload_n hx hb dX8_leaving_5 rfl (lv_at hl 0 rfl) ?_
    obtain ⟨hO_2, hw⟩ := hw
    refine cw_get (ci := 8) (v := .int (hz_i (z y0 4))) hx hb hts hin8 hown hK hP hO_2.1 hO_2.2 rfl 4 (by decide) (hts (.fieldLink RX8 28 "HiddenMoves$Solver" "rows" "I") (List.mem_cons_of_mem _ (List.mem_append_left _ (List.mem_append_left _ (List.mem_append_left _ (List.mem_of_getElem? (i := 0) rfl)))))) (fun _ h9 => h9) rfl dX8_leaving_6 ?_
    obtain ⟨h9a, hw⟩ := hw
    obtain ⟨h9b, hw⟩ := hw
    refine hz_icmp_ge (tgt := 47) hx hb dX8_leaving_9 (by decide) h9a h9b (fun c_3 => ?_) (fun c_3 => ?_)
    · have hw := hw.1 c_3
      refine lv_iload_n hx hb dX8_leaving_47 rfl (lv_at hl 2 rfl) ?_
      subst hQQ
      subst hAe
      exact W.iret (v := hz_i x2) hx hb hr (fun t ht hW => ⟨⟨hz_i x2, (x2, z, r, A), rfl, ⟨rfl, hw⟩, by rw [ht]; exact hP, va_K.moved hW.alike hK, hD⟩, hS.F ht⟩) hS.2.2 dX8_leaving_48
    · have hw := hw.2 c_3
      refine lv_aload_n hx hb dX8_leaving_12 rfl (lv_at hl 0 rfl) ?_
      refine lv_iload_n hx hb dX8_leaving_13 rfl (lv_at hl 3 rfl) ?_
      refine lv_iload_n hx hb dX8_leaving_14 rfl (lv_at hl 1 rfl) ?_
      have hFc := cw_free hD hS hA
      obtain ⟨q9, hq9⟩ := cw_at (C := C) (z := z) (r := r) (A := A) hO_2.1 hO_2.2
      refine va_callr (va_runV (As := [.int (hz_i x3), .int (hz_i y1)]) (rest := []) ⟨hx, hb, hml, hown, hts⟩ (k_c8_cell l D _ C L K z r A y0 x3 y1 _ hw) (cwV 2 hts gX8_leaving_X8_cell rfl rfl rfl (by decide +kernel) ⟨Nat.le_of_ble_eq_true rfl, Nat.le_of_ble_eq_true rfl⟩) ⟨hm_blind, va_recv hK hP (ci := 8) (q0 := q9) rfl hq9, hm_pre hP hK hD hE⟩ rfl rfl hl.1 rfl (lv_room (Nat.le_of_ble_eq_true rfl)) dX8_leaving_15 ⟨Nat.le_of_ble_eq_true rfl, Nat.le_of_ble_eq_true rfl⟩) hS (fun q _ h => hFc q h) hFc (fun u ra t H1 locs ht hvm hw hB hz1 hk1 hS => ?_)
      obtain ⟨rv_4, _, _, _⟩ := u
      obtain ⟨hra, hP, hK1, hD1⟩ := hB
      have hra := hra.symm
      subst hra
      rw [ht] at hP
      have hD := hD1.weaken (fun k q _ h => hFc q.1 h)
      have hP : va_P D vwCl (cw_w C L K z r A) H1 := hP
      have hD : va_D Ad (cw_w C L K z r A) := hD
      generalize H1 = H at hP hS ⊢
      refine W.eq (g2 := F0 m 18 ls [.ref rv_4]) rfl ?_
      obtain ⟨hO_6, hw⟩ := hw
      have hFc := cw_free hD hS hA
      obtain ⟨q9, hq9⟩ := cw_at (C := C) (z := z) (r := r) (A := A) hO_6.1 hO_6.2
      refine va_calli (va_runV (As := []) (rest := []) ⟨hx, hb, hml, hown, hts⟩ (k_c0_sign l D _ C L K z r A rv_4 _ hw) (cwV 0 hts gX8_leaving_X0_sign rfl rfl rfl (by decide +kernel) ⟨Nat.le_of_ble_eq_true rfl, Nat.le_of_ble_eq_true rfl⟩) ⟨hm_blind, va_recv hK hP (ci := 0) (q0 := q9) rfl hq9, hm_pre hP hK hD hE⟩ rfl rfl hl.1 rfl (lv_room (Nat.le_of_ble_eq_true rfl)) dX8_leaving_18 ⟨Nat.le_of_ble_eq_true rfl, Nat.le_of_ble_eq_true rfl⟩) hS (fun q _ h => hFc q h) hFc (fun rv u t H1 locs ht hvm hw hB hz1 hk1 hS => ?_)
      obtain ⟨rv_5, _, _, _⟩ := u
      obtain ⟨hP, hK1, hD1⟩ := hB
      rw [ht] at hP
      obtain ⟨hrv, hw⟩ := hw
      subst hrv
      have hD := hD1.weaken (fun k q _ h => hFc q.1 h)
      have hP : va_P D vwCl (cw_w C L K z r A) H1 := hP
      have hD : va_D Ad (cw_w C L K z r A) := hD
      generalize H1 = H at hP hS ⊢
      refine W.eq (g2 := F0 m 21 ls [.int (hz_i rv_5)]) rfl ?_
      obtain ⟨h9a, hw⟩ := hw
      refine hz_if_le (tgt := 41) hx hb dX8_leaving_21 (by decide) h9a (fun c_7 => ?_) (fun c_7 => ?_)
      · have hw := hw.1 c_7
        exact L41 z A x2 x3 hw H locs ls hP hD hS (lv_sub hl [0, 1, 2, 3] rfl)
      · have hw := hw.2 c_7
        refine lv_iload_n hx hb dX8_leaving_24 rfl (lv_at hl 2 rfl) ?_
        refine lv_iconst (v := hz_i (-1)) hx hb dX8_leaving_25 (by decide +kernel) ?_
        obtain ⟨h9a, hw⟩ := hw
        refine hz_icmp_eq (tgt := 39) hx hb dX8_leaving_26 (by decide) h9a ⟨by decide, by decide⟩ (fun c_8 => ?_) (fun c_8 => ?_)
        · have hw := hw.1 c_8
          exact L39 z A x3 hw H locs ls hP hD hS (lv_sub hl [0, 1, 3] rfl)
        · have hw := hw.2 c_8
          refine lv_aload_n hx hb dX8_leaving_29 rfl (lv_at hl 0 rfl) ?_
          refine lv_iload_n hx hb dX8_leaving_30 rfl (lv_at hl 3 rfl) ?_
          refine lv_iload_n hx hb dX8_leaving_31 rfl (lv_at hl 2 rfl) ?_
          refine lv_iload_n hx hb dX8_leaving_32 rfl (lv_at hl 1 rfl) ?_
          have hFc := cw_free hD hS hA
          obtain ⟨q9, hq9⟩ := cw_at (C := C) (z := z) (r := r) (A := A) hO_2.1 hO_2.2
          refine va_calli (va_runV (As := [.int (hz_i x3), .int (hz_i x2), .int (hz_i y1)]) (rest := []) ⟨hx, hb, hml, hown, hts⟩ (k_c8_leavesBefore l D _ C L K z r A y0 x3 x2 y1 _ hw) (cwV 3 hts gX8_leaving_X8_leavesBefore rfl rfl rfl (by decide +kernel) ⟨Nat.le_of_ble_eq_true rfl, Nat.le_of_ble_eq_true rfl⟩) ⟨hm_blind, va_recv hK hP (ci := 8) (q0 := q9) rfl hq9, hm_pre hP hK hD hE⟩ rfl rfl hl.1 rfl (lv_room (Nat.le_of_ble_eq_true rfl)) dX8_leaving_33 ⟨Nat.le_of_ble_eq_true rfl, Nat.le_of_ble_eq_true rfl⟩) hS (fun q _ h => hFc q h) hFc (fun rv u t H1 locs ht hvm hw hB hz1 hk1 hS => ?_)
          obtain ⟨rv_9, z_10, _, A_11⟩ := u
          obtain ⟨hP, hK1, hD1⟩ := hB
          rw [ht] at hP
          obtain ⟨hrv, hw⟩ := hw
          subst hrv
          have hD := hD1.weaken (fun k q _ h => hFc q.1 h)
          have hP : va_P D vwCl (cw_w C L K z_10 r A_11) H1 := hP
          have hD : va_D Ad (cw_w C L K z_10 r A_11) := hD
          generalize H1 = H at hP hS ⊢
          refine W.eq (g2 := F0 m 36 ls [.int (hz_i rv_9)]) rfl ?_
          obtain ⟨h9a, hw⟩ := hw
          refine hz_if_eq (tgt := 41) hx hb dX8_leaving_36 (by decide) h9a (fun c_12 => ?_) (fun c_12 => ?_)
          · have hw := hw.1 c_12
            exact L41 z_10 A_11 x2 x3 hw H locs ls hP hD hS (lv_sub hl [0, 1, 2, 3] rfl)
          · have hw := hw.2 c_12
            exact L39 z_10 A_11 x3 hw H locs ls hP hD hS (lv_sub hl [0, 1, 3] rfl)
  have hP := hP0; have hD := hD0; have hS := hS0; have hl := hl0; have hw := hw0
  obtain ⟨H, hH⟩ : ∃ H : Heap, H = s.heap := ⟨_, rfl⟩
  obtain ⟨locs, hlocs⟩ : ∃ L : List Loc, L = [] := ⟨_, rfl⟩
  rw [← hH] at hP
  have hS : va_S Ad s.heap H locs := by rw [hH, hlocs]; exact hS
  refine mw_HL hH hlocs ?_
  refine lv_iconst (v := hz_i (-1)) hx hb dX8_leaving_0 (by decide +kernel) ?_
  refine lv_istore_n (lv' := [(2, .int (hz_i (-1))), (0, .ref y0), (1, .int (hz_i y1))]) hx hb dX8_leaving_1 rfl hl (by decide) rfl (fun ls hl => ?_)
  refine lv_iconst (v := hz_i 0) hx hb dX8_leaving_2 (by decide +kernel) ?_
  refine lv_istore_n (lv' := [(3, .int (hz_i 0)), (2, .int (hz_i (-1))), (0, .ref y0), (1, .int (hz_i y1))]) hx hb dX8_leaving_3 rfl hl (by decide) rfl (fun ls hl => ?_)
  exact L4 z A (-1) 0 hw H locs ls hP hD hS (lv_sub hl [2, 3, 1, 0] rfl)

noncomputable def wp_c8_renew_77 (L : List Nat) (K : Nat → cw_K) (z : Nat → Nat → Int) (r : Nat → Nat → Nat) (A : Nat → Nat → Int) (y0 : Nat) (y1 : Nat) (Q : (Nat → Nat → Int) → (Nat → Nat → Int) → Prop) : Prop := cw_O L K 8 y0 ∧ cw_O L K 1 (r y0 12) ∧ wp_c1_divide L K z r A (r y0 12) (r y0 10) (fun z_3 A_4 => cw_O L K 0 y1 ∧ wp_c0_copy L K z_3 r A_4 y1 (r y0 10) (fun z_7 A_8 => Q z_7 A_8))
noncomputable def wp_c8_renew_35 (L : List Nat) (K : Nat → cw_K) (z : Nat → Nat → Int) (r : Nat → Nat → Nat) (A : Nat → Nat → Int) (y0 : Nat) (y1 : Nat) (y2 : Nat) (y3 : Nat) (y4 : Nat) (x5 : Int) (Q : (Nat → Nat → Int) → (Nat → Nat → Int) → Prop) : Prop := cw_O L K 8 y0 ∧ cw_O L K 0 (r y0 10) ∧ wp_c0_putProduct L K z r A (r y0 10) y1 y2 (fun z_12 A_13 => hz_rI x5 ∧ ((x5 = 0 → wp_c8_renew_77 L K z_12 r A_13 y0 y1  Q) ∧ (¬ (x5 = 0) → cw_O L K 0 (r y0 11) ∧ wp_c0_putProduct L K z_12 r A_13 (r y0 11) y3 y4 (fun z_17 A_18 => wp_c0_negate L K z_17 r A_18 (r y0 11) (fun z_21 => wp_c0_plus L K z_21 r A_18 (r y0 10) (r y0 11) (fun z_23 A_24 => wp_c8_renew_77 L K z_23 r A_24 y0 y1  Q))))))
noncomputable def wp_c8_renew_20 (L : List Nat) (K : Nat → cw_K) (z : Nat → Nat → Int) (r : Nat → Nat → Nat) (A : Nat → Nat → Int) (y0 : Nat) (y1 : Nat) (y2 : Nat) (y3 : Nat) (y4 : Nat) (t0 : Int) (Q : (Nat → Nat → Int) → (Nat → Nat → Int) → Prop) : Prop := hz_rI t0 ∧ ((¬ t0 = 0 → wp_c8_renew_35 L K z r A y0 y1 y2 y3 y4 t0  Q) ∧ (t0 = 0 → cw_O L K 0 y1 ∧ hz_rI (z y1 1) ∧ ((¬ z y1 1 = 0 → wp_c8_renew_35 L K z r A y0 y1 y2 y3 y4 t0  Q) ∧ (z y1 1 = 0 → Q z A))))
noncomputable def wp_c8_renew_19 (L : List Nat) (K : Nat → cw_K) (z : Nat → Nat → Int) (r : Nat → Nat → Nat) (A : Nat → Nat → Int) (y0 : Nat) (y1 : Nat) (y2 : Nat) (y3 : Nat) (y4 : Nat) (Q : (Nat → Nat → Int) → (Nat → Nat → Int) → Prop) : Prop := wp_c8_renew_20 L K z r A y0 y1 y2 y3 y4 0  Q
noncomputable def wp_c8_renew (L : List Nat) (K : Nat → cw_K) (z : Nat → Nat → Int) (r : Nat → Nat → Nat) (A : Nat → Nat → Int) (y0 : Nat) (y1 : Nat) (y2 : Nat) (y3 : Nat) (y4 : Nat) (Q : (Nat → Nat → Int) → (Nat → Nat → Int) → Prop) : Prop := cw_O L K 0 y3 ∧ hz_rI (z y3 1) ∧ ((z y3 1 ≤ 0 → wp_c8_renew_19 L K z r A y0 y1 y2 y3 y4  Q) ∧ (¬ (z y3 1 ≤ 0) → cw_O L K 0 y4 ∧ hz_rI (z y4 1) ∧ ((z y4 1 ≤ 0 → wp_c8_renew_19 L K z r A y0 y1 y2 y3 y4  Q) ∧ (¬ (z y4 1 ≤ 0) → wp_c8_renew_20 L K z r A y0 y1 y2 y3 y4 1  Q))))
set_option maxHeartbeats 4000000 in
set_option maxRecDepth 100000 in
theorem k_c8_renew (l : Launch) (D : va_G) (sz : Nat) (C : Nat → ClassId) (L : List Nat) (K : Nat → cw_K) (z : Nat → Nat → Int) (r : Nat → Nat → Nat) (A : Nat → Nat → Int) (y0 : Nat) (y1 : Nat) (y2 : Nat) (y3 : Nat) (y4 : Nat) (Q : (Nat → Nat → Int) → (Nat → Nat → Int) → Prop) (hw : wp_c8_renew L K z r A y0 y1 y2 y3 y4 Q) : Met l yX8_renew wsX8_renew ({ frames := 3, cells := 0, slots := 0, locals := 77 } : Room) (va_Pc [.ref y0, .ref y1, .ref y2, .ref y3, .ref y4] (hm_P D (cw_w C L K z r A) (cw_t C) sz)) (va_Qv (S := Int × (Nat → Nat → Int) × (Nat → Nat → Nat) × (Nat → Nat → Int)) (fun u => Q u.2.1 u.2.2.2) (fun u t => hm_B D (va_A (cw_w C L K z r A) sz) (cw_w C L K u.2.1 r u.2.2.2) (cw_t C) t) (va_A (cw_w C L K z r A) sz)) 0 0 (va_A (cw_w C L K z r A) sz) := by
  refine Met.ofW (cc := cX8_renew) (maxL := 6) (ret := none) (by decide) rfl ?_
  intro p e s m args below meth c s₁ B hml hv
  obtain ⟨rfl, hsz, hP, hK, hD0, hE⟩ := hv
  have hx := B.exec
  have hb := B.bytes
  have hr := B.returns
  have hts := atoms_spec (ws := wsX8_renew) B.pre
  have hown : s.vm.findClass RX8 = some m.cls := findClass_of_methodNamed B.named
  have hlocks := B.notSynchronized
  have hin0 : ∀ w ∈ u_ws RX0 TX0 3, w ∈ wsX8_renew := fun w h => List.mem_cons_of_mem _ (List.mem_append_left _ (List.mem_append_left _ (List.mem_append_right _ (h))))
  have hin8 : ∀ w ∈ u_ws RX8 TX8 13, w ∈ wsX8_renew := fun w h => List.mem_cons_of_mem _ (List.mem_append_left _ (List.mem_append_right _ (h)))
  subst hsz
  have hD := hD0.self (sz := s.heap.size)
  generalize hAe : va_A (cw_w C L K z r A) s.heap.size = Ad at hD ⊢
  have hA : ∀ q : Nat, s.heap.size ≤ q → Ad q := fun q h => by rw [← hAe]; exact Or.inr h
  have hS : va_S Ad s.heap s.heap [] := va_S.rf
  have hl := lv_entry ([.ref y0, .ref y1, .ref y2, .ref y3, .ref y4]) (n := 6) (Nat.le_of_ble_eq_true rfl)
  rw [lg_entry_eq]
  generalize (lg_sl ([.ref y0, .ref y1, .ref y2, .ref y3, .ref y4]) ++ List.replicate (6 - (lg_sl ([.ref y0, .ref y1, .ref y2, .ref y3, .ref y4])).length) Slot.unset).toArray = ls at hl ⊢
  have hl : lv_has ls 6 [(0, .ref y0), (1, .ref y1), (2, .ref y2), (3, .ref y3), (4, .ref y4)] := hl
  refine mw_Q (fun QQ hQQ => ?_)
  have hP0 := hP; have hD0 := hD; have hS0 := hS; have hl0 := hl; have hw0 := hw
  clear hP hD hS hl hw
  have L77 : ∀ (z : Nat → Nat → Int) (A : Nat → Nat → Int), wp_c8_renew_77 L K z r A y0 y1  Q → ∀ (H : Heap) (locs : List Loc) (ls : Array Slot), va_P D vwCl (cw_w C L K z r A) H → va_D Ad (cw_w C L K z r A) → va_S Ad s.heap H locs → lv_has ls 6 [(0, .ref y0), (1, .ref y1)] → W p l e (headSpec wsX8_renew ({ frames := 3, cells := 0, slots := 0, locals := 77 } : Room)).room s m (List.toArray [.ref y0, .ref y1, .ref y2, .ref y3, .ref y4]) below meth c H locs 0 0 QQ (F0 m 77 ls []) := by
    intro z A hw H locs ls hP hD hS hl
    refine lv_aload_n hx hb dX8_renew_77 rfl (lv_at hl 0 rfl) ?_
    obtain ⟨hO_1, hw⟩ := hw
    refine cw_get (ci := 8) (v := .ref (r y0 12)) hx hb hts hin8 hown hK hP hO_1.1 hO_1.2 rfl 12 (by decide) (hts (.fieldLink RX8 61 "HiddenMoves$Solver" "divider" "LHiddenMoves$Divider;") (List.mem_cons_of_mem _ (List.mem_append_left _ (List.mem_append_left _ (List.mem_append_left _ (List.mem_append_left _ (List.mem_of_getElem? (i := 3) rfl))))))) (fun _ h9 => h9) rfl dX8_renew_78 ?_
    refine lv_aload_n hx hb dX8_renew_81 rfl (lv_at hl 0 rfl) ?_
    refine cw_get (ci := 8) (v := .ref (r y0 10)) hx hb hts hin8 hown hK hP hO_1.1 hO_1.2 rfl 10 (by decide) (hts (.fieldLink RX8 52 "HiddenMoves$Solver" "left" "LHiddenMoves$Big;") (List.mem_cons_of_mem _ (List.mem_append_left _ (List.mem_append_left _ (List.mem_append_left _ (List.mem_append_left _ (List.mem_of_getElem? (i := 1) rfl))))))) (fun _ h9 => h9) rfl dX8_renew_82 ?_
    obtain ⟨hO_5, hw⟩ := hw
    have hFc := cw_free hD hS hA
    obtain ⟨q9, hq9⟩ := cw_at (C := C) (z := z) (r := r) (A := A) hO_5.1 hO_5.2
    refine va_callv (va_runV (As := [.ref (r y0 10)]) (rest := []) ⟨hx, hb, hml, hown, hts⟩ (k_c1_divide l D _ C L K z r A (r y0 12) (r y0 10) _ hw) (cwV 1 hts gX8_renew_X1_divide rfl rfl rfl (by decide +kernel) ⟨Nat.le_of_ble_eq_true rfl, Nat.le_of_ble_eq_true rfl⟩) ⟨hm_blind, va_recv hK hP (ci := 1) (q0 := q9) rfl hq9, hm_pre hP hK hD hE⟩ rfl rfl hl.1 rfl (lv_room (Nat.le_of_ble_eq_true rfl)) dX8_renew_85 ⟨Nat.le_of_ble_eq_true rfl, Nat.le_of_ble_eq_true rfl⟩) hS (fun q _ h => hFc q h) hFc (fun u t H1 locs ht hvm hw hB hz1 hk1 hS => ?_)
    obtain ⟨rv_2, z_3, _, A_4⟩ := u
    obtain ⟨hP, hK1, hD1⟩ := hB
    rw [ht] at hP
    have hD := hD1.weaken (fun k q _ h => hFc q.1 h)
    have hP : va_P D vwCl (cw_w C L K z_3 r A_4) H1 := hP
    have hD : va_D Ad (cw_w C L K z_3 r A_4) := hD
    generalize H1 = H at hP hS ⊢
    refine W.eq (g2 := F0 m 88 ls []) rfl ?_
    refine lv_aload_n hx hb dX8_renew_88 rfl (lv_at hl 1 rfl) ?_
    refine lv_aload_n hx hb dX8_renew_89 rfl (lv_at hl 0 rfl) ?_
    refine cw_get (ci := 8) (v := .ref (r y0 10)) hx hb hts hin8 hown hK hP hO_1.1 hO_1.2 rfl 10 (by decide) (hts (.fieldLink RX8 52 "HiddenMoves$Solver" "left" "LHiddenMoves$Big;") (List.mem_cons_of_mem _ (List.mem_append_left _ (List.mem_append_left _ (List.mem_append_left _ (List.mem_append_left _ (List.mem_of_getElem? (i := 1) rfl))))))) (fun _ h9 => h9) rfl dX8_renew_90 ?_
    obtain ⟨hO_9, hw⟩ := hw
    have hFc := cw_free hD hS hA
    obtain ⟨q9, hq9⟩ := cw_at (C := C) (z := z_3) (r := r) (A := A_4) hO_9.1 hO_9.2
    refine va_callv (va_runV (As := [.ref (r y0 10)]) (rest := []) ⟨hx, hb, hml, hown, hts⟩ (k_c0_copy l D _ C L K z_3 r A_4 y1 (r y0 10) _ hw) (cwV 1 hts gX8_renew_X0_copy rfl rfl rfl (by decide +kernel) ⟨Nat.le_of_ble_eq_true rfl, Nat.le_of_ble_eq_true rfl⟩) ⟨hm_blind, va_recv hK hP (ci := 0) (q0 := q9) rfl hq9, hm_pre hP hK hD hE⟩ rfl rfl hl.1 rfl (lv_room (Nat.le_of_ble_eq_true rfl)) dX8_renew_93 ⟨Nat.le_of_ble_eq_true rfl, Nat.le_of_ble_eq_true rfl⟩) hS (fun q _ h => hFc q h) hFc (fun u t H1 locs ht hvm hw hB hz1 hk1 hS => ?_)
    obtain ⟨rv_6, z_7, _, A_8⟩ := u
    obtain ⟨hP, hK1, hD1⟩ := hB
    rw [ht] at hP
    have hD := hD1.weaken (fun k q _ h => hFc q.1 h)
    have hP : va_P D vwCl (cw_w C L K z_7 r A_8) H1 := hP
    have hD : va_D Ad (cw_w C L K z_7 r A_8) := hD
    generalize H1 = H at hP hS ⊢
    refine W.eq (g2 := F0 m 96 ls []) rfl ?_
    subst hQQ
    subst hAe
    exact W.vret hx hb hr (fun t ht hW => ⟨⟨(0, z_7, r, A_8), rfl, hw, by rw [ht]; exact hP, va_K.moved hW.alike hK, hD⟩, hS.F ht⟩) hS.2.2 dX8_renew_96
  have L35 : ∀ (z : Nat → Nat → Int) (A : Nat → Nat → Int) (x5 : Int), wp_c8_renew_35 L K z r A y0 y1 y2 y3 y4 x5  Q → ∀ (H : Heap) (locs : List Loc) (ls : Array Slot), va_P D vwCl (cw_w C L K z r A) H → va_D Ad (cw_w C L K z r A) → va_S Ad s.heap H locs → lv_has ls 6 [(0, .ref y0), (1, .ref y1), (2, .ref y2), (3, .ref y3), (4, .ref y4), (5, .int (hz_i x5))] → W p l e (headSpec wsX8_renew ({ frames := 3, cells := 0, slots := 0, locals := 77 } : Room)).room s m (List.toArray [.ref y0, .ref y1, .ref y2, .ref y3, .ref y4]) below meth c H locs 0 0 QQ (F0 m 35 ls []) := by
    intro z A x5 hw H locs ls hP hD hS hl
    refine lv_aload_n hx hb dX8_renew_35 rfl (lv_at hl 0 rfl) ?_
    obtain ⟨hO_10, hw⟩ := hw
    refine cw_get (ci := 8) (v := .ref (r y0 10)) hx hb hts hin8 hown hK hP hO_10.1 hO_10.2 rfl 10 (by decide) (hts (.fieldLink RX8 52 "HiddenMoves$Solver" "left" "LHiddenMoves$Big;") (List.mem_cons_of_mem _ (List.mem_append_left _ (List.mem_append_left _ (List.mem_append_left _ (List.mem_append_left _ (List.mem_of_getElem? (i := 1) rfl))))))) (fun _ h9 => h9) rfl dX8_renew_36 ?_
    refine lv_aload_n hx hb dX8_renew_39 rfl (lv_at hl 1 rfl) ?_
    refine lv_aload_n hx hb dX8_renew_40 rfl (lv_at hl 2 rfl) ?_
    obtain ⟨hO_14, hw⟩ := hw
    have hFc := cw_free hD hS hA
    obtain ⟨q9, hq9⟩ := cw_at (C := C) (z := z) (r := r) (A := A) hO_14.1 hO_14.2
    refine va_callv (va_runV (As := [.ref y1, .ref y2]) (rest := []) ⟨hx, hb, hml, hown, hts⟩ (k_c0_putProduct l D _ C L K z r A (r y0 10) y1 y2 _ hw) (cwV 2 hts gX8_renew_X0_putProduct rfl rfl rfl (by decide +kernel) ⟨Nat.le_of_ble_eq_true rfl, Nat.le_of_ble_eq_true rfl⟩) ⟨hm_blind, va_recv hK hP (ci := 0) (q0 := q9) rfl hq9, hm_pre hP hK hD hE⟩ rfl rfl hl.1 rfl (lv_room (Nat.le_of_ble_eq_true rfl)) dX8_renew_41 ⟨Nat.le_of_ble_eq_true rfl, Nat.le_of_ble_eq_true rfl⟩) hS (fun q _ h => hFc q h) hFc (fun u t H1 locs ht hvm hw hB hz1 hk1 hS => ?_)
    obtain ⟨rv_11, z_12, _, A_13⟩ := u
    obtain ⟨hP, hK1, hD1⟩ := hB
    rw [ht] at hP
    have hD := hD1.weaken (fun k q _ h => hFc q.1 h)
    have hP : va_P D vwCl (cw_w C L K z_12 r A_13) H1 := hP
    have hD : va_D Ad (cw_w C L K z_12 r A_13) := hD
    generalize H1 = H at hP hS ⊢
    refine W.eq (g2 := F0 m 44 ls []) rfl ?_
    refine lv_iload hx hb dX8_renew_44 (lv_at hl 5 rfl) ?_
    obtain ⟨h9a, hw⟩ := hw
    refine hz_if_eq (tgt := 77) hx hb dX8_renew_46 (by decide) h9a (fun c_15 => ?_) (fun c_15 => ?_)
    · have hw := hw.1 c_15
      exact L77 z_12 A_13 hw H locs ls hP hD hS (lv_sub hl [0, 1] rfl)
    · have hw := hw.2 c_15
      refine lv_aload_n hx hb dX8_renew_49 rfl (lv_at hl 0 rfl) ?_
      refine cw_get (ci := 8) (v := .ref (r y0 11)) hx hb hts hin8 hown hK hP hO_10.1 hO_10.2 rfl 11 (by decide) (hts (.fieldLink RX8 55 "HiddenMoves$Solver" "right" "LHiddenMoves$Big;") (List.mem_cons_of_mem _ (List.mem_append_left _ (List.mem_append_left _ (List.mem_append_left _ (List.mem_append_left _ (List.mem_of_getElem? (i := 2) rfl))))))) (fun _ h9 => h9) rfl dX8_renew_50 ?_
      refine lv_aload_n hx hb dX8_renew_53 rfl (lv_at hl 3 rfl) ?_
      refine lv_aload hx hb dX8_renew_54 (lv_at hl 4 rfl) ?_
      obtain ⟨hO_19, hw⟩ := hw
      have hFc := cw_free hD hS hA
      obtain ⟨q9, hq9⟩ := cw_at (C := C) (z := z_12) (r := r) (A := A_13) hO_19.1 hO_19.2
      refine va_callv (va_runV (As := [.ref y3, .ref y4]) (rest := []) ⟨hx, hb, hml, hown, hts⟩ (k_c0_putProduct l D _ C L K z_12 r A_13 (r y0 11) y3 y4 _ hw) (cwV 2 hts gX8_renew_X0_putProduct rfl rfl rfl (by decide +kernel) ⟨Nat.le_of_ble_eq_true rfl, Nat.le_of_ble_eq_true rfl⟩) ⟨hm_blind, va_recv hK hP (ci := 0) (q0 := q9) rfl hq9, hm_pre hP hK hD hE⟩ rfl rfl hl.1 rfl (lv_room (Nat.le_of_ble_eq_true rfl)) dX8_renew_56 ⟨Nat.le_of_ble_eq_true rfl, Nat.le_of_ble_eq_true rfl⟩) hS (fun q _ h => hFc q h) hFc (fun u t H1 locs ht hvm hw hB hz1 hk1 hS => ?_)
      obtain ⟨rv_16, z_17, _, A_18⟩ := u
      obtain ⟨hP, hK1, hD1⟩ := hB
      rw [ht] at hP
      have hD := hD1.weaken (fun k q _ h => hFc q.1 h)
      have hP : va_P D vwCl (cw_w C L K z_17 r A_18) H1 := hP
      have hD : va_D Ad (cw_w C L K z_17 r A_18) := hD
      generalize H1 = H at hP hS ⊢
      refine W.eq (g2 := F0 m 59 ls []) rfl ?_
      refine lv_aload_n hx hb dX8_renew_59 rfl (lv_at hl 0 rfl) ?_
      refine cw_get (ci := 8) (v := .ref (r y0 11)) hx hb hts hin8 hown hK hP hO_10.1 hO_10.2 rfl 11 (by decide) (hts (.fieldLink RX8 55 "HiddenMoves$Solver" "right" "LHiddenMoves$Big;") (List.mem_cons_of_mem _ (List.mem_append_left _ (List.mem_append_left _ (List.mem_append_left _ (List.mem_append_left _ (List.mem_of_getElem? (i := 2) rfl))))))) (fun _ h9 => h9) rfl dX8_renew_60 ?_
      have hFc := cw_free hD hS hA
      obtain ⟨q9, hq9⟩ := cw_at (C := C) (z := z_17) (r := r) (A := A_18) hO_19.1 hO_19.2
      refine va_callv (va_runV (As := []) (rest := []) ⟨hx, hb, hml, hown, hts⟩ (k_c0_negate l D _ C L K z_17 r A_18 (r y0 11) _ hw) (cwV 0 hts gX8_renew_X0_negate rfl rfl rfl (by decide +kernel) ⟨Nat.le_of_ble_eq_true rfl, Nat.le_of_ble_eq_true rfl⟩) ⟨hm_blind, va_recv hK hP (ci := 0) (q0 := q9) rfl hq9, hm_pre hP hK hD hE⟩ rfl rfl hl.1 rfl (lv_room (Nat.le_of_ble_eq_true rfl)) dX8_renew_63 ⟨Nat.le_of_ble_eq_true rfl, Nat.le_of_ble_eq_true rfl⟩) hS (fun q _ h => hFc q h) hFc (fun u t H1 locs ht hvm hw hB hz1 hk1 hS => ?_)
      obtain ⟨rv_20, z_21, _, _⟩ := u
      obtain ⟨hP, hK1, hD1⟩ := hB
      rw [ht] at hP
      have hD := hD1.weaken (fun k q _ h => hFc q.1 h)
      have hP : va_P D vwCl (cw_w C L K z_21 r A_18) H1 := hP
      have hD : va_D Ad (cw_w C L K z_21 r A_18) := hD
      generalize H1 = H at hP hS ⊢
      refine W.eq (g2 := F0 m 66 ls []) rfl ?_
      refine lv_aload_n hx hb dX8_renew_66 rfl (lv_at hl 0 rfl) ?_
      refine cw_get (ci := 8) (v := .ref (r y0 10)) hx hb hts hin8 hown hK hP hO_10.1 hO_10.2 rfl 10 (by decide) (hts (.fieldLink RX8 52 "HiddenMoves$Solver" "left" "LHiddenMoves$Big;") (List.mem_cons_of_mem _ (List.mem_append_left _ (List.mem_append_left _ (List.mem_append_left _ (List.mem_append_left _ (List.mem_of_getElem? (i := 1) rfl))))))) (fun _ h9 => h9) rfl dX8_renew_67 ?_
      refine lv_aload_n hx hb dX8_renew_70 rfl (lv_at hl 0 rfl) ?_
      refine cw_get (ci := 8) (v := .ref (r y0 11)) hx hb hts hin8 hown hK hP hO_10.1 hO_10.2 rfl 11 (by decide) (hts (.fieldLink RX8 55 "HiddenMoves$Solver" "right" "LHiddenMoves$Big;") (List.mem_cons_of_mem _ (List.mem_append_left _ (List.mem_append_left _ (List.mem_append_left _ (List.mem_append_left _ (List.mem_of_getElem? (i := 2) rfl))))))) (fun _ h9 => h9) rfl dX8_renew_71 ?_
      have hFc := cw_free hD hS hA
      obtain ⟨q9, hq9⟩ := cw_at (C := C) (z := z_21) (r := r) (A := A_18) hO_14.1 hO_14.2
      refine va_callv (va_runV (As := [.ref (r y0 11)]) (rest := []) ⟨hx, hb, hml, hown, hts⟩ (k_c0_plus l D _ C L K z_21 r A_18 (r y0 10) (r y0 11) _ hw) (cwV 1 hts gX8_renew_X0_plus rfl rfl rfl (by decide +kernel) ⟨Nat.le_of_ble_eq_true rfl, Nat.le_of_ble_eq_true rfl⟩) ⟨hm_blind, va_recv hK hP (ci := 0) (q0 := q9) rfl hq9, hm_pre hP hK hD hE⟩ rfl rfl hl.1 rfl (lv_room (Nat.le_of_ble_eq_true rfl)) dX8_renew_74 ⟨Nat.le_of_ble_eq_true rfl, Nat.le_of_ble_eq_true rfl⟩) hS (fun q _ h => hFc q h) hFc (fun u t H1 locs ht hvm hw hB hz1 hk1 hS => ?_)
      obtain ⟨rv_22, z_23, _, A_24⟩ := u
      obtain ⟨hP, hK1, hD1⟩ := hB
      rw [ht] at hP
      have hD := hD1.weaken (fun k q _ h => hFc q.1 h)
      have hP : va_P D vwCl (cw_w C L K z_23 r A_24) H1 := hP
      have hD : va_D Ad (cw_w C L K z_23 r A_24) := hD
      generalize H1 = H at hP hS ⊢
      refine W.eq (g2 := F0 m 77 ls []) rfl ?_
      exact L77 z_23 A_24 hw H locs ls hP hD hS (lv_sub hl [0, 1] rfl)
  have L20 : ∀ (z : Nat → Nat → Int) (A : Nat → Nat → Int) (t0 : Int), wp_c8_renew_20 L K z r A y0 y1 y2 y3 y4 t0  Q → ∀ (H : Heap) (locs : List Loc) (ls : Array Slot), va_P D vwCl (cw_w C L K z r A) H → va_D Ad (cw_w C L K z r A) → va_S Ad s.heap H locs → lv_has ls 6 [(0, .ref y0), (1, .ref y1), (2, .ref y2), (3, .ref y3), (4, .ref y4)] → W p l e (headSpec wsX8_renew ({ frames := 3, cells := 0, slots := 0, locals := 77 } : Room)).room s m (List.toArray [.ref y0, .ref y1, .ref y2, .ref y3, .ref y4]) below meth c H locs 0 0 QQ (F0 m 20 ls [.int (hz_i t0)]) := by
    intro z A t0 hw H locs ls hP hD hS hl
    refine lv_istore (lv' := [(5, .int (hz_i t0)), (0, .ref y0), (1, .ref y1), (2, .ref y2), (3, .ref y3), (4, .ref y4)]) hx hb dX8_renew_20 hl (by decide) rfl (fun ls hl => ?_)
    refine lv_iload hx hb dX8_renew_22 (lv_at hl 0 rfl) ?_
    obtain ⟨h9a, hw⟩ := hw
    refine hz_if_ne (tgt := 35) hx hb dX8_renew_24 (by decide) h9a (fun c_25 => ?_) (fun c_25 => ?_)
    · have hw := hw.1 c_25
      exact L35 z A t0 hw H locs ls hP hD hS (lv_sub hl [1, 2, 3, 4, 5, 0] rfl)
    · have hw := hw.2 c_25
      refine lv_aload_n hx hb dX8_renew_27 rfl (lv_at hl 2 rfl) ?_
      obtain ⟨hO_26, hw⟩ := hw
      refine cw_get (ci := 0) (v := .int (hz_i (z y1 1))) hx hb hts hin0 hown hK hP hO_26.1 hO_26.2 rfl 1 (by decide) (hts (.fieldLink RX8 195 "HiddenMoves$Big" "length" "I") (List.mem_cons_of_mem _ (List.mem_append_left _ (List.mem_append_left _ (List.mem_append_left _ (List.mem_append_left _ (List.mem_of_getElem? (i := 0) rfl))))))) (fun _ h9 => h9) rfl dX8_renew_28 ?_
      obtain ⟨h9a, hw⟩ := hw
      refine hz_if_ne (tgt := 35) hx hb dX8_renew_31 (by decide) h9a (fun c_27 => ?_) (fun c_27 => ?_)
      · have hw := hw.1 c_27
        exact L35 z A t0 hw H locs ls hP hD hS (lv_sub hl [1, 2, 3, 4, 5, 0] rfl)
      · have hw := hw.2 c_27
        subst hQQ
        subst hAe
        exact W.vret hx hb hr (fun t ht hW => ⟨⟨(0, z, r, A), rfl, hw, by rw [ht]; exact hP, va_K.moved hW.alike hK, hD⟩, hS.F ht⟩) hS.2.2 dX8_renew_34
  have L19 : ∀ (z : Nat → Nat → Int) (A : Nat → Nat → Int), wp_c8_renew_19 L K z r A y0 y1 y2 y3 y4  Q → ∀ (H : Heap) (locs : List Loc) (ls : Array Slot), va_P D vwCl (cw_w C L K z r A) H → va_D Ad (cw_w C L K z r A) → va_S Ad s.heap H locs → lv_has ls 6 [(0, .ref y0), (1, .ref y1), (2, .ref y2), (3, .ref y3), (4, .ref y4)] → W p l e (headSpec wsX8_renew ({ frames := 3, cells := 0, slots := 0, locals := 77 } : Room)).room s m (List.toArray [.ref y0, .ref y1, .ref y2, .ref y3, .ref y4]) below meth c H locs 0 0 QQ (F0 m 19 ls []) := by
    intro z A hw H locs ls hP hD hS hl
    refine lv_iconst (v := hz_i 0) hx hb dX8_renew_19 (by decide +kernel) ?_
    exact L20 z A 0 hw H locs ls hP hD hS (lv_sub hl [0, 1, 2, 3, 4] rfl)
  have hP := hP0; have hD := hD0; have hS := hS0; have hl := hl0; have hw := hw0
  obtain ⟨H, hH⟩ : ∃ H : Heap, H = s.heap := ⟨_, rfl⟩
  obtain ⟨locs, hlocs⟩ : ∃ L : List Loc, L = [] := ⟨_, rfl⟩
  rw [← hH] at hP
  have hS : va_S Ad s.heap H locs := by rw [hH, hlocs]; exact hS
  refine mw_HL hH hlocs ?_
  refine lv_aload_n hx hb dX8_renew_0 rfl (lv_at hl 3 rfl) ?_
  obtain ⟨hO_28, hw⟩ := hw
  refine cw_get (ci := 0) (v := .int (hz_i (z y3 1))) hx hb hts hin0 hown hK hP hO_28.1 hO_28.2 rfl 1 (by decide) (hts (.fieldLink RX8 195 "HiddenMoves$Big" "length" "I") (List.mem_cons_of_mem _ (List.mem_append_left _ (List.mem_append_left _ (List.mem_append_left _ (List.mem_append_left _ (List.mem_of_getElem? (i := 0) rfl))))))) (fun _ h9 => h9) rfl dX8_renew_1 ?_
  obtain ⟨h9a, hw⟩ := hw
  refine hz_if_le (tgt := 19) hx hb dX8_renew_4 (by decide) h9a (fun c_29 => ?_) (fun c_29 => ?_)
  · have hw := hw.1 c_29
    exact L19 z A hw H locs ls hP hD hS (lv_sub hl [0, 1, 2, 3, 4] rfl)
  · have hw := hw.2 c_29
    refine lv_aload hx hb dX8_renew_7 (lv_at hl 4 rfl) ?_
    obtain ⟨hO_30, hw⟩ := hw
    refine cw_get (ci := 0) (v := .int (hz_i (z y4 1))) hx hb hts hin0 hown hK hP hO_30.1 hO_30.2 rfl 1 (by decide) (hts (.fieldLink RX8 195 "HiddenMoves$Big" "length" "I") (List.mem_cons_of_mem _ (List.mem_append_left _ (List.mem_append_left _ (List.mem_append_left _ (List.mem_append_left _ (List.mem_of_getElem? (i := 0) rfl))))))) (fun _ h9 => h9) rfl dX8_renew_9 ?_
    obtain ⟨h9a, hw⟩ := hw
    refine hz_if_le (tgt := 19) hx hb dX8_renew_12 (by decide) h9a (fun c_31 => ?_) (fun c_31 => ?_)
    · have hw := hw.1 c_31
      exact L19 z A hw H locs ls hP hD hS (lv_sub hl [0, 1, 2, 3, 4] rfl)
    · have hw := hw.2 c_31
      refine lv_iconst (v := hz_i 1) hx hb dX8_renew_15 (by decide +kernel) ?_
      refine lv_goto (tgt := 20) hx hb dX8_renew_16 (by decide) ?_
      exact L20 z A 1 hw H locs ls hP hD hS (lv_sub hl [0, 1, 2, 3, 4] rfl)

noncomputable def wp_c8_exchange_121 (L : List Nat) (K : Nat → cw_K) (z : Nat → Nat → Int) (r : Nat → Nat → Nat) (A : Nat → Nat → Int) (y0 : Nat) (y1 : Int) (y2 : Int) (x3 : Nat) (x4 : Int) (P96 : (Nat → Nat → Int) → Int → Prop) (Q : (Nat → Nat → Int) → (Nat → Nat → Int) → Prop) : Prop := ∀ x4_1 : Int, x4_1 = x4 + 1 → P96 z x4_1
noncomputable def wp_c8_exchange_96 (L : List Nat) (K : Nat → cw_K) (z : Nat → Nat → Int) (r : Nat → Nat → Nat) (A : Nat → Nat → Int) (y0 : Nat) (y1 : Int) (y2 : Int) (x3 : Nat) (x4 : Int) (Q : (Nat → Nat → Int) → (Nat → Nat → Int) → Prop) : Prop := ∀ P96 : (Nat → Nat → Int) → Int → Prop, (∀ (z : Nat → Nat → Int) (x4 : Int), cw_O L K 8 y0 ∧ hz_rI x4 ∧ hz_rI (z y0 4) ∧ ((z y0 4 < x4 → cw_O L K 0 (r y0 10) ∧ wp_c0_copy L K z r A (r y0 10) (r y0 9) (fun z_5 A_6 => cw_O L K 0 (r y0 9) ∧ wp_c0_copy L K z_5 r A_6 (r y0 9) x3 (fun z_9 A_10 => cw_O L K 0 x3 ∧ wp_c0_copy L K z_9 r A_10 x3 (r y0 10) (fun z_13 A_14 => cw_A L K 0 (r y0 1) ∧ ((0 : Int) ≤ y1 ∧ y1 < (cw_n K (r y0 1) : Int)) ∧ ∀ x4_17 : Int, x4_17 = A_14 (r y0 1) (y1.toNat) → cw_A L K 0 (r y0 2) ∧ ((0 : Int) ≤ y2 ∧ y2 < (cw_n K (r y0 2) : Int)) ∧ ((0 : Int) ≤ y1 ∧ y1 < (cw_n K (r y0 1) : Int)) ∧ ∀ A_19 : Nat → Nat → Int, A_19 = hz_s A_14 (r y0 1) y1 (A_14 (r y0 2) (y2.toNat)) → ((0 : Int) ≤ y2 ∧ y2 < (cw_n K (r y0 2) : Int)) ∧ ∀ A_20 : Nat → Nat → Int, A_20 = hz_s A_19 (r y0 2) y2 x4_17 → Q z_13 A_20)))) ∧ (¬ (z y0 4 < x4) → hz_rI x4 ∧ hz_rI y1 ∧ ((x4 = y1 → wp_c8_exchange_121 L K z r A y0 y1 y2 x3 x4 P96 Q) ∧ (¬ (x4 = y1) → wp_c8_cell L K z r A y0 x4 y2 (fun rv_22 => cw_O L K 0 rv_22 ∧ wp_c0_negate L K z r A rv_22 (fun z_24 => wp_c8_exchange_121 L K z_24 r A y0 y1 y2 x3 x4 P96 Q)))))) → P96 z x4) → P96 z x4
noncomputable def wp_c8_exchange_87 (L : List Nat) (K : Nat → cw_K) (z : Nat → Nat → Int) (r : Nat → Nat → Nat) (A : Nat → Nat → Int) (y0 : Nat) (y1 : Int) (y2 : Int) (x3 : Nat) (x4 : Int) (P21 : (Nat → Nat → Int) → (Nat → Nat → Int) → Int → Prop) (Q : (Nat → Nat → Int) → (Nat → Nat → Int) → Prop) : Prop := ∀ x4_26 : Int, x4_26 = x4 + 1 → P21 z A x4_26
noncomputable def wp_c8_exchange_81 (L : List Nat) (K : Nat → cw_K) (z : Nat → Nat → Int) (r : Nat → Nat → Nat) (A : Nat → Nat → Int) (y0 : Nat) (y1 : Int) (y2 : Int) (x3 : Nat) (x4 : Int) (x5 : Int) (P21 : (Nat → Nat → Int) → (Nat → Nat → Int) → Int → Prop) (P33 : (Nat → Nat → Int) → (Nat → Nat → Int) → Int → Prop) (Q : (Nat → Nat → Int) → (Nat → Nat → Int) → Prop) : Prop := ∀ x5_27 : Int, x5_27 = x5 + 1 → P33 z A x5_27
noncomputable def wp_c8_exchange_33 (L : List Nat) (K : Nat → cw_K) (z : Nat → Nat → Int) (r : Nat → Nat → Nat) (A : Nat → Nat → Int) (y0 : Nat) (y1 : Int) (y2 : Int) (x3 : Nat) (x4 : Int) (x5 : Int) (P21 : (Nat → Nat → Int) → (Nat → Nat → Int) → Int → Prop) (Q : (Nat → Nat → Int) → (Nat → Nat → Int) → Prop) : Prop := ∀ P33 : (Nat → Nat → Int) → (Nat → Nat → Int) → Int → Prop, (∀ (z : Nat → Nat → Int) (A : Nat → Nat → Int) (x5 : Int), cw_O L K 8 y0 ∧ hz_rI x5 ∧ hz_rI (z y0 5) ∧ ((z y0 5 < x5 → wp_c8_exchange_87 L K z r A y0 y1 y2 x3 x4 P21 Q) ∧ (¬ (z y0 5 < x5) → hz_rI x4 ∧ hz_rI y1 ∧ ((x4 = y1 → wp_c8_exchange_87 L K z r A y0 y1 y2 x3 x4 P21 Q) ∧ (¬ (x4 = y1) → hz_rI x5 ∧ hz_rI y2 ∧ ((x5 = y2 → wp_c8_exchange_81 L K z r A y0 y1 y2 x3 x4 x5 P21 P33 Q) ∧ (¬ (x5 = y2) → wp_c8_cell L K z r A y0 x4 x5 (fun rv_32 => wp_c8_cell L K z r A y0 x4 y2 (fun rv_33 => wp_c8_cell L K z r A y0 y1 x5 (fun rv_34 => wp_c8_renew L K z r A y0 rv_32 x3 rv_33 rv_34 (fun z_36 A_37 => wp_c8_exchange_81 L K z_36 r A_37 y0 y1 y2 x3 x4 x5 P21 P33 Q)))))))))) → P33 z A x5) → P33 z A x5
noncomputable def wp_c8_exchange_21 (L : List Nat) (K : Nat → cw_K) (z : Nat → Nat → Int) (r : Nat → Nat → Nat) (A : Nat → Nat → Int) (y0 : Nat) (y1 : Int) (y2 : Int) (x3 : Nat) (x4 : Int) (Q : (Nat → Nat → Int) → (Nat → Nat → Int) → Prop) : Prop := ∀ P21 : (Nat → Nat → Int) → (Nat → Nat → Int) → Int → Prop, (∀ (z : Nat → Nat → Int) (A : Nat → Nat → Int) (x4 : Int), cw_O L K 8 y0 ∧ hz_rI x4 ∧ hz_rI (z y0 4) ∧ ((z y0 4 < x4 → wp_c8_exchange_96 L K z r A y0 y1 y2 x3 0  Q) ∧ (¬ (z y0 4 < x4) → wp_c8_exchange_33 L K z r A y0 y1 y2 x3 x4 0 P21 Q)) → P21 z A x4) → P21 z A x4
noncomputable def wp_c8_exchange (L : List Nat) (K : Nat → cw_K) (z : Nat → Nat → Int) (r : Nat → Nat → Nat) (A : Nat → Nat → Int) (y0 : Nat) (y1 : Int) (y2 : Int) (Q : (Nat → Nat → Int) → (Nat → Nat → Int) → Prop) : Prop := cw_O L K 8 y0 ∧ cw_O L K 1 (r y0 12) ∧ wp_c1_prepare L K z r A (r y0 12) (r y0 9) (fun z_42 A_43 => wp_c8_cell L K z_42 r A_43 y0 y1 y2 (fun rv_45 => wp_c8_exchange_21 L K z_42 r A_43 y0 y1 y2 rv_45 0  Q))
set_option maxHeartbeats 4000000 in
set_option maxRecDepth 100000 in
theorem k_c8_exchange (l : Launch) (D : va_G) (sz : Nat) (C : Nat → ClassId) (L : List Nat) (K : Nat → cw_K) (z : Nat → Nat → Int) (r : Nat → Nat → Nat) (A : Nat → Nat → Int) (y0 : Nat) (y1 : Int) (y2 : Int) (Q : (Nat → Nat → Int) → (Nat → Nat → Int) → Prop) (hw : wp_c8_exchange L K z r A y0 y1 y2 Q) : Met l yX8_exchange wsX8_exchange ({ frames := 4, cells := 0, slots := 0, locals := 102 } : Room) (va_Pc [.ref y0, .int (hz_i y1), .int (hz_i y2)] (hm_P D (cw_w C L K z r A) (cw_t C) sz)) (va_Qv (S := Int × (Nat → Nat → Int) × (Nat → Nat → Nat) × (Nat → Nat → Int)) (fun u => Q u.2.1 u.2.2.2) (fun u t => hm_B D (va_A (cw_w C L K z r A) sz) (cw_w C L K u.2.1 r u.2.2.2) (cw_t C) t) (va_A (cw_w C L K z r A) sz)) 0 0 (va_A (cw_w C L K z r A) sz) := by
  refine Met.ofW (cc := cX8_exchange) (maxL := 6) (ret := none) (by decide) rfl ?_
  intro p e s m args below meth c s₁ B hml hv
  obtain ⟨rfl, hsz, hP, hK, hD0, hE⟩ := hv
  have hx := B.exec
  have hb := B.bytes
  have hr := B.returns
  have hts := atoms_spec (ws := wsX8_exchange) B.pre
  have hown : s.vm.findClass RX8 = some m.cls := findClass_of_methodNamed B.named
  have hlocks := B.notSynchronized
  have hin8 : ∀ w ∈ u_ws RX8 TX8 13, w ∈ wsX8_exchange := fun w h => List.mem_cons_of_mem _ (List.mem_append_left _ (List.mem_append_left _ (List.mem_append_right _ (h))))
  subst hsz
  have hD := hD0.self (sz := s.heap.size)
  generalize hAe : va_A (cw_w C L K z r A) s.heap.size = Ad at hD ⊢
  have hA : ∀ q : Nat, s.heap.size ≤ q → Ad q := fun q h => by rw [← hAe]; exact Or.inr h
  have hS : va_S Ad s.heap s.heap [] := va_S.rf
  have hl := lv_entry ([.ref y0, .int (hz_i y1), .int (hz_i y2)]) (n := 6) (Nat.le_of_ble_eq_true rfl)
  rw [lg_entry_eq]
  generalize (lg_sl ([.ref y0, .int (hz_i y1), .int (hz_i y2)]) ++ List.replicate (6 - (lg_sl ([.ref y0, .int (hz_i y1), .int (hz_i y2)])).length) Slot.unset).toArray = ls at hl ⊢
  have hl : lv_has ls 6 [(0, .ref y0), (1, .int (hz_i y1)), (2, .int (hz_i y2))] := hl
  refine mw_Q (fun QQ hQQ => ?_)
  have hP0 := hP; have hD0 := hD; have hS0 := hS; have hl0 := hl; have hw0 := hw
  clear hP hD hS hl hw
  have L96 : ∀ (z : Nat → Nat → Int) (A : Nat → Nat → Int) (x3 : Nat) (x4 : Int), wp_c8_exchange_96 L K z r A y0 y1 y2 x3 x4  Q → ∀ (H : Heap) (locs : List Loc) (ls : Array Slot), va_P D vwCl (cw_w C L K z r A) H → va_D Ad (cw_w C L K z r A) → va_S Ad s.heap H locs → lv_has ls 6 [(0, .ref y0), (1, .int (hz_i y1)), (2, .int (hz_i y2)), (3, .ref x3), (4, .int (hz_i x4))] → W p l e (headSpec wsX8_exchange ({ frames := 4, cells := 0, slots := 0, locals := 102 } : Room)).room s m (List.toArray [.ref y0, .int (hz_i y1), .int (hz_i y2)]) below meth c H locs 0 0 QQ (F0 m 96 ls []) := by
    intro z A x3 x4 hw
    obtain ⟨P96, hP96⟩ : ∃ P : (Nat → Nat → Int) → Int → Prop, ∀ (z : Nat → Nat → Int) (x4 : Int), P z x4 ↔ (∀ (H : Heap) (locs : List Loc) (ls : Array Slot), va_P D vwCl (cw_w C L K z r A) H → va_D Ad (cw_w C L K z r A) → va_S Ad s.heap H locs → lv_has ls 6 [(0, .ref y0), (1, .int (hz_i y1)), (2, .int (hz_i y2)), (3, .ref x3), (4, .int (hz_i x4))] → W p l e (headSpec wsX8_exchange ({ frames := 4, cells := 0, slots := 0, locals := 102 } : Room)).room s m (List.toArray [.ref y0, .int (hz_i y1), .int (hz_i y2)]) below meth c H locs 0 0 QQ (F0 m 96 ls [])) := ⟨fun (z : Nat → Nat → Int) (x4 : Int) => ∀ (H : Heap) (locs : List Loc) (ls : Array Slot), va_P D vwCl (cw_w C L K z r A) H → va_D Ad (cw_w C L K z r A) → va_S Ad s.heap H locs → lv_has ls 6 [(0, .ref y0), (1, .int (hz_i y1)), (2, .int (hz_i y2)), (3, .ref x3), (4, .int (hz_i x4))] → W p l e (headSpec wsX8_exchange ({ frames := 4, cells := 0, slots := 0, locals := 102 } : Room)).room s m (List.toArray [.ref y0, .int (hz_i y1), .int (hz_i y2)]) below meth c H locs 0 0 QQ (F0 m 96 ls []), fun _ _ => Iff.rfl⟩
    refine (hP96 z x4).mp (hw P96 ?_)
    intro z x4 hw
    refine (hP96 z x4).mpr ?_
    intro H locs ls hP hD hS hl
    have L121 : ∀ (z : Nat → Nat → Int) (x4 : Int), wp_c8_exchange_121 L K z r A y0 y1 y2 x3 x4 P96 Q → ∀ (H : Heap) (locs : List Loc) (ls : Array Slot), va_P D vwCl (cw_w C L K z r A) H → va_D Ad (cw_w C L K z r A) → va_S Ad s.heap H locs → lv_has ls 6 [(0, .ref y0), (1, .int (hz_i y1)), (2, .int (hz_i y2)), (3, .ref x3), (4, .int (hz_i x4))] → W p l e (headSpec wsX8_exchange ({ frames := 4, cells := 0, slots := 0, locals := 102 } : Room)).room s m (List.toArray [.ref y0, .int (hz_i y1), .int (hz_i y2)]) below meth c H locs 0 0 QQ (F0 m 121 ls []) := by
      intro z x4 hw H locs ls hP hD hS hl
      obtain ⟨x4_1, hx4_1⟩ : ∃ y : Int, y = x4 + 1 := ⟨_, rfl⟩
      have hw := hw x4_1 hx4_1
      refine lv_iinc (v := hz_i x4_1) (lv' := [(4, .int (hz_i x4_1)), (0, .ref y0), (1, .int (hz_i y1)), (2, .int (hz_i y2)), (3, .ref x3)]) hx hb dX8_exchange_121 hl (k := 4) rfl (by rw [hx4_1]; exact hz_i_add _ _) (by decide) rfl (fun ls hl => ?_)
      refine lv_goto (tgt := 96) hx hb dX8_exchange_124 (by decide) ?_
      exact (hP96 z x4_1).mp hw H locs ls hP hD hS (lv_sub hl [1, 2, 3, 4, 0] rfl)
    refine lv_iload hx hb dX8_exchange_96 (lv_at hl 4 rfl) ?_
    refine lv_aload_n hx hb dX8_exchange_98 rfl (lv_at hl 0 rfl) ?_
    obtain ⟨hO_2, hw⟩ := hw
    refine cw_get (ci := 8) (v := .int (hz_i (z y0 4))) hx hb hts hin8 hown hK hP hO_2.1 hO_2.2 rfl 4 (by decide) (hts (.fieldLink RX8 28 "HiddenMoves$Solver" "rows" "I") (List.mem_cons_of_mem _ (List.mem_append_left _ (List.mem_append_left _ (List.mem_append_left _ (List.mem_append_left _ (List.mem_of_getElem? (i := 2) rfl))))))) (fun _ h9 => h9) rfl dX8_exchange_99 ?_
    obtain ⟨h9a, hw⟩ := hw
    obtain ⟨h9b, hw⟩ := hw
    refine hz_icmp_gt (tgt := 127) hx hb dX8_exchange_102 (by decide) h9a h9b (fun c_3 => ?_) (fun c_3 => ?_)
    · have hw := hw.1 c_3
      refine lv_aload_n hx hb dX8_exchange_127 rfl (lv_at hl 0 rfl) ?_
      refine cw_get (ci := 8) (v := .ref (r y0 10)) hx hb hts hin8 hown hK hP hO_2.1 hO_2.2 rfl 10 (by decide) (hts (.fieldLink RX8 52 "HiddenMoves$Solver" "left" "LHiddenMoves$Big;") (List.mem_cons_of_mem _ (List.mem_append_left _ (List.mem_append_left _ (List.mem_append_left _ (List.mem_append_left _ (List.mem_of_getElem? (i := 4) rfl))))))) (fun _ h9 => h9) rfl dX8_exchange_128 ?_
      refine lv_aload_n hx hb dX8_exchange_131 rfl (lv_at hl 0 rfl) ?_
      refine cw_get (ci := 8) (v := .ref (r y0 9)) hx hb hts hin8 hown hK hP hO_2.1 hO_2.2 rfl 9 (by decide) (hts (.fieldLink RX8 48 "HiddenMoves$Solver" "scale" "LHiddenMoves$Big;") (List.mem_cons_of_mem _ (List.mem_append_left _ (List.mem_append_left _ (List.mem_append_left _ (List.mem_append_left _ (List.mem_of_getElem? (i := 1) rfl))))))) (fun _ h9 => h9) rfl dX8_exchange_132 ?_
      obtain ⟨hO_7, hw⟩ := hw
      have hFc := cw_free hD hS hA
      obtain ⟨q9, hq9⟩ := cw_at (C := C) (z := z) (r := r) (A := A) hO_7.1 hO_7.2
      refine va_callv (va_runV (As := [.ref (r y0 9)]) (rest := []) ⟨hx, hb, hml, hown, hts⟩ (k_c0_copy l D _ C L K z r A (r y0 10) (r y0 9) _ hw) (cwV 1 hts gX8_exchange_X0_copy rfl rfl rfl (by decide +kernel) ⟨Nat.le_of_ble_eq_true rfl, Nat.le_of_ble_eq_true rfl⟩) ⟨hm_blind, va_recv hK hP (ci := 0) (q0 := q9) rfl hq9, hm_pre hP hK hD hE⟩ rfl rfl hl.1 rfl (lv_room (Nat.le_of_ble_eq_true rfl)) dX8_exchange_135 ⟨Nat.le_of_ble_eq_true rfl, Nat.le_of_ble_eq_true rfl⟩) hS (fun q _ h => hFc q h) hFc (fun u t H1 locs ht hvm hw hB hz1 hk1 hS => ?_)
      obtain ⟨rv_4, z_5, _, A_6⟩ := u
      obtain ⟨hP, hK1, hD1⟩ := hB
      rw [ht] at hP
      have hD := hD1.weaken (fun k q _ h => hFc q.1 h)
      have hP : va_P D vwCl (cw_w C L K z_5 r A_6) H1 := hP
      have hD : va_D Ad (cw_w C L K z_5 r A_6) := hD
      generalize H1 = H at hP hS ⊢
      refine W.eq (g2 := F0 m 138 ls []) rfl ?_
      refine lv_aload_n hx hb dX8_exchange_138 rfl (lv_at hl 0 rfl) ?_
      refine cw_get (ci := 8) (v := .ref (r y0 9)) hx hb hts hin8 hown hK hP hO_2.1 hO_2.2 rfl 9 (by decide) (hts (.fieldLink RX8 48 "HiddenMoves$Solver" "scale" "LHiddenMoves$Big;") (List.mem_cons_of_mem _ (List.mem_append_left _ (List.mem_append_left _ (List.mem_append_left _ (List.mem_append_left _ (List.mem_of_getElem? (i := 1) rfl))))))) (fun _ h9 => h9) rfl dX8_exchange_139 ?_
      refine lv_aload_n hx hb dX8_exchange_142 rfl (lv_at hl 3 rfl) ?_
      obtain ⟨hO_11, hw⟩ := hw
      have hFc := cw_free hD hS hA
      obtain ⟨q9, hq9⟩ := cw_at (C := C) (z := z_5) (r := r) (A := A_6) hO_11.1 hO_11.2
      refine va_callv (va_runV (As := [.ref x3]) (rest := []) ⟨hx, hb, hml, hown, hts⟩ (k_c0_copy l D _ C L K z_5 r A_6 (r y0 9) x3 _ hw) (cwV 1 hts gX8_exchange_X0_copy rfl rfl rfl (by decide +kernel) ⟨Nat.le_of_ble_eq_true rfl, Nat.le_of_ble_eq_true rfl⟩) ⟨hm_blind, va_recv hK hP (ci := 0) (q0 := q9) rfl hq9, hm_pre hP hK hD hE⟩ rfl rfl hl.1 rfl (lv_room (Nat.le_of_ble_eq_true rfl)) dX8_exchange_143 ⟨Nat.le_of_ble_eq_true rfl, Nat.le_of_ble_eq_true rfl⟩) hS (fun q _ h => hFc q h) hFc (fun u t H1 locs ht hvm hw hB hz1 hk1 hS => ?_)
      obtain ⟨rv_8, z_9, _, A_10⟩ := u
      obtain ⟨hP, hK1, hD1⟩ := hB
      rw [ht] at hP
      have hD := hD1.weaken (fun k q _ h => hFc q.1 h)
      have hP : va_P D vwCl (cw_w C L K z_9 r A_10) H1 := hP
      have hD : va_D Ad (cw_w C L K z_9 r A_10) := hD
      generalize H1 = H at hP hS ⊢
      refine W.eq (g2 := F0 m 146 ls []) rfl ?_
      refine lv_aload_n hx hb dX8_exchange_146 rfl (lv_at hl 3 rfl) ?_
      refine lv_aload_n hx hb dX8_exchange_147 rfl (lv_at hl 0 rfl) ?_
      refine cw_get (ci := 8) (v := .ref (r y0 10)) hx hb hts hin8 hown hK hP hO_2.1 hO_2.2 rfl 10 (by decide) (hts (.fieldLink RX8 52 "HiddenMoves$Solver" "left" "LHiddenMoves$Big;") (List.mem_cons_of_mem _ (List.mem_append_left _ (List.mem_append_left _ (List.mem_append_left _ (List.mem_append_left _ (List.mem_of_getElem? (i := 4) rfl))))))) (fun _ h9 => h9) rfl dX8_exchange_148 ?_
      obtain ⟨hO_15, hw⟩ := hw
      have hFc := cw_free hD hS hA
      obtain ⟨q9, hq9⟩ := cw_at (C := C) (z := z_9) (r := r) (A := A_10) hO_15.1 hO_15.2
      refine va_callv (va_runV (As := [.ref (r y0 10)]) (rest := []) ⟨hx, hb, hml, hown, hts⟩ (k_c0_copy l D _ C L K z_9 r A_10 x3 (r y0 10) _ hw) (cwV 1 hts gX8_exchange_X0_copy rfl rfl rfl (by decide +kernel) ⟨Nat.le_of_ble_eq_true rfl, Nat.le_of_ble_eq_true rfl⟩) ⟨hm_blind, va_recv hK hP (ci := 0) (q0 := q9) rfl hq9, hm_pre hP hK hD hE⟩ rfl rfl hl.1 rfl (lv_room (Nat.le_of_ble_eq_true rfl)) dX8_exchange_151 ⟨Nat.le_of_ble_eq_true rfl, Nat.le_of_ble_eq_true rfl⟩) hS (fun q _ h => hFc q h) hFc (fun u t H1 locs ht hvm hw hB hz1 hk1 hS => ?_)
      obtain ⟨rv_12, z_13, _, A_14⟩ := u
      obtain ⟨hP, hK1, hD1⟩ := hB
      rw [ht] at hP
      have hD := hD1.weaken (fun k q _ h => hFc q.1 h)
      have hP : va_P D vwCl (cw_w C L K z_13 r A_14) H1 := hP
      have hD : va_D Ad (cw_w C L K z_13 r A_14) := hD
      generalize H1 = H at hP hS ⊢
      refine W.eq (g2 := F0 m 154 ls []) rfl ?_
      refine lv_aload_n hx hb dX8_exchange_154 rfl (lv_at hl 0 rfl) ?_
      refine cw_get (ci := 8) (v := .ref (r y0 1)) hx hb hts hin8 hown hK hP hO_2.1 hO_2.2 rfl 1 (by decide) (hts (.fieldLink RX8 17 "HiddenMoves$Solver" "rowUnknowns" "[I") (List.mem_cons_of_mem _ (List.mem_append_left _ (List.mem_append_left _ (List.mem_append_left _ (List.mem_append_left _ (List.mem_of_getElem? (i := 5) rfl))))))) (fun _ h9 => h9) rfl dX8_exchange_155 ?_
      refine lv_iload_n hx hb dX8_exchange_158 rfl (lv_at hl 1 rfl) ?_
      obtain ⟨hO_16, hw⟩ := hw
      obtain ⟨h9i, hw⟩ := hw
      refine cw_ild hx hb hK hP hO_16.1 hO_16.2.2 h9i hO_16.2.1 dX8_exchange_159 ?_
      refine hz_topi (fun x4_17 hx4_17 => ?_)
      have hw := hw x4_17 hx4_17
      refine lv_istore (lv' := [(4, .int (hz_i x4_17)), (0, .ref y0), (1, .int (hz_i y1)), (2, .int (hz_i y2)), (3, .ref x3)]) hx hb dX8_exchange_160 hl (by decide) rfl (fun ls hl => ?_)
      refine lv_aload_n hx hb dX8_exchange_162 rfl (lv_at hl 1 rfl) ?_
      refine cw_get (ci := 8) (v := .ref (r y0 1)) hx hb hts hin8 hown hK hP hO_2.1 hO_2.2 rfl 1 (by decide) (hts (.fieldLink RX8 17 "HiddenMoves$Solver" "rowUnknowns" "[I") (List.mem_cons_of_mem _ (List.mem_append_left _ (List.mem_append_left _ (List.mem_append_left _ (List.mem_append_left _ (List.mem_of_getElem? (i := 5) rfl))))))) (fun _ h9 => h9) rfl dX8_exchange_163 ?_
      refine lv_iload_n hx hb dX8_exchange_166 rfl (lv_at hl 2 rfl) ?_
      refine lv_aload_n hx hb dX8_exchange_167 rfl (lv_at hl 1 rfl) ?_
      refine cw_get (ci := 8) (v := .ref (r y0 2)) hx hb hts hin8 hown hK hP hO_2.1 hO_2.2 rfl 2 (by decide) (hts (.fieldLink RX8 21 "HiddenMoves$Solver" "columnUnknowns" "[I") (List.mem_cons_of_mem _ (List.mem_append_left _ (List.mem_append_left _ (List.mem_append_left _ (List.mem_append_left _ (List.mem_of_getElem? (i := 6) rfl))))))) (fun _ h9 => h9) rfl dX8_exchange_168 ?_
      refine lv_iload_n hx hb dX8_exchange_171 rfl (lv_at hl 3 rfl) ?_
      obtain ⟨hO_18, hw⟩ := hw
      obtain ⟨h9i, hw⟩ := hw
      refine cw_ild hx hb hK hP hO_18.1 hO_18.2.2 h9i hO_18.2.1 dX8_exchange_172 ?_
      obtain ⟨h9i, hw⟩ := hw
      refine cw_ist (v := A_14 (r y0 2) (y2.toNat)) hx hb hK hP hD hS hO_16.1 hO_16.2.2 h9i hO_16.2.1 dX8_exchange_173 (fun H locs hP hD hS => ?_)
      obtain ⟨A_19, hA_19⟩ : ∃ y : Nat → Nat → Int, y = hz_s A_14 (r y0 1) y1 (A_14 (r y0 2) (y2.toNat)) := ⟨_, rfl⟩
      rw [← hA_19] at hP hD
      have hw := hw A_19 hA_19
      refine lv_aload_n hx hb dX8_exchange_174 rfl (lv_at hl 1 rfl) ?_
      refine cw_get (ci := 8) (v := .ref (r y0 2)) hx hb hts hin8 hown hK hP hO_2.1 hO_2.2 rfl 2 (by decide) (hts (.fieldLink RX8 21 "HiddenMoves$Solver" "columnUnknowns" "[I") (List.mem_cons_of_mem _ (List.mem_append_left _ (List.mem_append_left _ (List.mem_append_left _ (List.mem_append_left _ (List.mem_of_getElem? (i := 6) rfl))))))) (fun _ h9 => h9) rfl dX8_exchange_175 ?_
      refine lv_iload_n hx hb dX8_exchange_178 rfl (lv_at hl 3 rfl) ?_
      refine lv_iload hx hb dX8_exchange_179 (lv_at hl 0 rfl) ?_
      obtain ⟨h9i, hw⟩ := hw
      refine cw_ist (v := x4_17) hx hb hK hP hD hS hO_18.1 hO_18.2.2 h9i hO_18.2.1 dX8_exchange_181 (fun H locs hP hD hS => ?_)
      obtain ⟨A_20, hA_20⟩ : ∃ y : Nat → Nat → Int, y = hz_s A_19 (r y0 2) y2 x4_17 := ⟨_, rfl⟩
      rw [← hA_20] at hP hD
      have hw := hw A_20 hA_20
      subst hQQ
      subst hAe
      exact W.vret hx hb hr (fun t ht hW => ⟨⟨(0, z_13, r, A_20), rfl, hw, by rw [ht]; exact hP, va_K.moved hW.alike hK, hD⟩, hS.F ht⟩) hS.2.2 dX8_exchange_182
    · have hw := hw.2 c_3
      refine lv_iload hx hb dX8_exchange_105 (lv_at hl 4 rfl) ?_
      refine lv_iload_n hx hb dX8_exchange_107 rfl (lv_at hl 1 rfl) ?_
      obtain ⟨h9a, hw⟩ := hw
      obtain ⟨h9b, hw⟩ := hw
      refine hz_icmp_eq (tgt := 121) hx hb dX8_exchange_108 (by decide) h9a h9b (fun c_21 => ?_) (fun c_21 => ?_)
      · have hw := hw.1 c_21
        exact L121 z x4 hw H locs ls hP hD hS (lv_sub hl [0, 1, 2, 3, 4] rfl)
      · have hw := hw.2 c_21
        refine lv_aload_n hx hb dX8_exchange_111 rfl (lv_at hl 0 rfl) ?_
        refine lv_iload hx hb dX8_exchange_112 (lv_at hl 4 rfl) ?_
        refine lv_iload_n hx hb dX8_exchange_114 rfl (lv_at hl 2 rfl) ?_
        have hFc := cw_free hD hS hA
        obtain ⟨q9, hq9⟩ := cw_at (C := C) (z := z) (r := r) (A := A) hO_2.1 hO_2.2
        refine va_callr (va_runV (As := [.int (hz_i x4), .int (hz_i y2)]) (rest := []) ⟨hx, hb, hml, hown, hts⟩ (k_c8_cell l D _ C L K z r A y0 x4 y2 _ hw) (cwV 2 hts gX8_exchange_X8_cell rfl rfl rfl (by decide +kernel) ⟨Nat.le_of_ble_eq_true rfl, Nat.le_of_ble_eq_true rfl⟩) ⟨hm_blind, va_recv hK hP (ci := 8) (q0 := q9) rfl hq9, hm_pre hP hK hD hE⟩ rfl rfl hl.1 rfl (lv_room (Nat.le_of_ble_eq_true rfl)) dX8_exchange_115 ⟨Nat.le_of_ble_eq_true rfl, Nat.le_of_ble_eq_true rfl⟩) hS (fun q _ h => hFc q h) hFc (fun u ra t H1 locs ht hvm hw hB hz1 hk1 hS => ?_)
        obtain ⟨rv_22, _, _, _⟩ := u
        obtain ⟨hra, hP, hK1, hD1⟩ := hB
        have hra := hra.symm
        subst hra
        rw [ht] at hP
        have hD := hD1.weaken (fun k q _ h => hFc q.1 h)
        have hP : va_P D vwCl (cw_w C L K z r A) H1 := hP
        have hD : va_D Ad (cw_w C L K z r A) := hD
        generalize H1 = H at hP hS ⊢
        refine W.eq (g2 := F0 m 118 ls [.ref rv_22]) rfl ?_
        obtain ⟨hO_25, hw⟩ := hw
        have hFc := cw_free hD hS hA
        obtain ⟨q9, hq9⟩ := cw_at (C := C) (z := z) (r := r) (A := A) hO_25.1 hO_25.2
        refine va_callv (va_runV (As := []) (rest := []) ⟨hx, hb, hml, hown, hts⟩ (k_c0_negate l D _ C L K z r A rv_22 _ hw) (cwV 0 hts gX8_exchange_X0_negate rfl rfl rfl (by decide +kernel) ⟨Nat.le_of_ble_eq_true rfl, Nat.le_of_ble_eq_true rfl⟩) ⟨hm_blind, va_recv hK hP (ci := 0) (q0 := q9) rfl hq9, hm_pre hP hK hD hE⟩ rfl rfl hl.1 rfl (lv_room (Nat.le_of_ble_eq_true rfl)) dX8_exchange_118 ⟨Nat.le_of_ble_eq_true rfl, Nat.le_of_ble_eq_true rfl⟩) hS (fun q _ h => hFc q h) hFc (fun u t H1 locs ht hvm hw hB hz1 hk1 hS => ?_)
        obtain ⟨rv_23, z_24, _, _⟩ := u
        obtain ⟨hP, hK1, hD1⟩ := hB
        rw [ht] at hP
        have hD := hD1.weaken (fun k q _ h => hFc q.1 h)
        have hP : va_P D vwCl (cw_w C L K z_24 r A) H1 := hP
        have hD : va_D Ad (cw_w C L K z_24 r A) := hD
        generalize H1 = H at hP hS ⊢
        refine W.eq (g2 := F0 m 121 ls []) rfl ?_
        exact L121 z_24 x4 hw H locs ls hP hD hS (lv_sub hl [0, 1, 2, 3, 4] rfl)
  have L21 : ∀ (z : Nat → Nat → Int) (A : Nat → Nat → Int) (x3 : Nat) (x4 : Int), wp_c8_exchange_21 L K z r A y0 y1 y2 x3 x4  Q → ∀ (H : Heap) (locs : List Loc) (ls : Array Slot), va_P D vwCl (cw_w C L K z r A) H → va_D Ad (cw_w C L K z r A) → va_S Ad s.heap H locs → lv_has ls 6 [(0, .ref y0), (1, .int (hz_i y1)), (2, .int (hz_i y2)), (3, .ref x3), (4, .int (hz_i x4))] → W p l e (headSpec wsX8_exchange ({ frames := 4, cells := 0, slots := 0, locals := 102 } : Room)).room s m (List.toArray [.ref y0, .int (hz_i y1), .int (hz_i y2)]) below meth c H locs 0 0 QQ (F0 m 21 ls []) := by
    intro z A x3 x4 hw
    obtain ⟨P21, hP21⟩ : ∃ P : (Nat → Nat → Int) → (Nat → Nat → Int) → Int → Prop, ∀ (z : Nat → Nat → Int) (A : Nat → Nat → Int) (x4 : Int), P z A x4 ↔ (∀ (H : Heap) (locs : List Loc) (ls : Array Slot), va_P D vwCl (cw_w C L K z r A) H → va_D Ad (cw_w C L K z r A) → va_S Ad s.heap H locs → lv_has ls 6 [(0, .ref y0), (1, .int (hz_i y1)), (2, .int (hz_i y2)), (3, .ref x3), (4, .int (hz_i x4))] → W p l e (headSpec wsX8_exchange ({ frames := 4, cells := 0, slots := 0, locals := 102 } : Room)).room s m (List.toArray [.ref y0, .int (hz_i y1), .int (hz_i y2)]) below meth c H locs 0 0 QQ (F0 m 21 ls [])) := ⟨fun (z : Nat → Nat → Int) (A : Nat → Nat → Int) (x4 : Int) => ∀ (H : Heap) (locs : List Loc) (ls : Array Slot), va_P D vwCl (cw_w C L K z r A) H → va_D Ad (cw_w C L K z r A) → va_S Ad s.heap H locs → lv_has ls 6 [(0, .ref y0), (1, .int (hz_i y1)), (2, .int (hz_i y2)), (3, .ref x3), (4, .int (hz_i x4))] → W p l e (headSpec wsX8_exchange ({ frames := 4, cells := 0, slots := 0, locals := 102 } : Room)).room s m (List.toArray [.ref y0, .int (hz_i y1), .int (hz_i y2)]) below meth c H locs 0 0 QQ (F0 m 21 ls []), fun _ _ _ => Iff.rfl⟩
    refine (hP21 z A x4).mp (hw P21 ?_)
    intro z A x4 hw
    refine (hP21 z A x4).mpr ?_
    intro H locs ls hP hD hS hl
    have L87 : ∀ (z : Nat → Nat → Int) (A : Nat → Nat → Int) (x4 : Int), wp_c8_exchange_87 L K z r A y0 y1 y2 x3 x4 P21 Q → ∀ (H : Heap) (locs : List Loc) (ls : Array Slot), va_P D vwCl (cw_w C L K z r A) H → va_D Ad (cw_w C L K z r A) → va_S Ad s.heap H locs → lv_has ls 6 [(0, .ref y0), (1, .int (hz_i y1)), (2, .int (hz_i y2)), (3, .ref x3), (4, .int (hz_i x4))] → W p l e (headSpec wsX8_exchange ({ frames := 4, cells := 0, slots := 0, locals := 102 } : Room)).room s m (List.toArray [.ref y0, .int (hz_i y1), .int (hz_i y2)]) below meth c H locs 0 0 QQ (F0 m 87 ls []) := by
      intro z A x4 hw H locs ls hP hD hS hl
      obtain ⟨x4_26, hx4_26⟩ : ∃ y : Int, y = x4 + 1 := ⟨_, rfl⟩
      have hw := hw x4_26 hx4_26
      refine lv_iinc (v := hz_i x4_26) (lv' := [(4, .int (hz_i x4_26)), (0, .ref y0), (1, .int (hz_i y1)), (2, .int (hz_i y2)), (3, .ref x3)]) hx hb dX8_exchange_87 hl (k := 4) rfl (by rw [hx4_26]; exact hz_i_add _ _) (by decide) rfl (fun ls hl => ?_)
      refine lv_goto (tgt := 21) hx hb dX8_exchange_90 (by decide) ?_
      exact (hP21 z A x4_26).mp hw H locs ls hP hD hS (lv_sub hl [1, 2, 3, 4, 0] rfl)
    have L33 : ∀ (z : Nat → Nat → Int) (A : Nat → Nat → Int) (x4 : Int) (x5 : Int), wp_c8_exchange_33 L K z r A y0 y1 y2 x3 x4 x5 P21 Q → ∀ (H : Heap) (locs : List Loc) (ls : Array Slot), va_P D vwCl (cw_w C L K z r A) H → va_D Ad (cw_w C L K z r A) → va_S Ad s.heap H locs → lv_has ls 6 [(0, .ref y0), (1, .int (hz_i y1)), (2, .int (hz_i y2)), (3, .ref x3), (4, .int (hz_i x4)), (5, .int (hz_i x5))] → W p l e (headSpec wsX8_exchange ({ frames := 4, cells := 0, slots := 0, locals := 102 } : Room)).room s m (List.toArray [.ref y0, .int (hz_i y1), .int (hz_i y2)]) below meth c H locs 0 0 QQ (F0 m 33 ls []) := by
      intro z A x4 x5 hw
      obtain ⟨P33, hP33⟩ : ∃ P : (Nat → Nat → Int) → (Nat → Nat → Int) → Int → Prop, ∀ (z : Nat → Nat → Int) (A : Nat → Nat → Int) (x5 : Int), P z A x5 ↔ (∀ (H : Heap) (locs : List Loc) (ls : Array Slot), va_P D vwCl (cw_w C L K z r A) H → va_D Ad (cw_w C L K z r A) → va_S Ad s.heap H locs → lv_has ls 6 [(0, .ref y0), (1, .int (hz_i y1)), (2, .int (hz_i y2)), (3, .ref x3), (4, .int (hz_i x4)), (5, .int (hz_i x5))] → W p l e (headSpec wsX8_exchange ({ frames := 4, cells := 0, slots := 0, locals := 102 } : Room)).room s m (List.toArray [.ref y0, .int (hz_i y1), .int (hz_i y2)]) below meth c H locs 0 0 QQ (F0 m 33 ls [])) := ⟨fun (z : Nat → Nat → Int) (A : Nat → Nat → Int) (x5 : Int) => ∀ (H : Heap) (locs : List Loc) (ls : Array Slot), va_P D vwCl (cw_w C L K z r A) H → va_D Ad (cw_w C L K z r A) → va_S Ad s.heap H locs → lv_has ls 6 [(0, .ref y0), (1, .int (hz_i y1)), (2, .int (hz_i y2)), (3, .ref x3), (4, .int (hz_i x4)), (5, .int (hz_i x5))] → W p l e (headSpec wsX8_exchange ({ frames := 4, cells := 0, slots := 0, locals := 102 } : Room)).room s m (List.toArray [.ref y0, .int (hz_i y1), .int (hz_i y2)]) below meth c H locs 0 0 QQ (F0 m 33 ls []), fun _ _ _ => Iff.rfl⟩
      refine (hP33 z A x5).mp (hw P33 ?_)
      intro z A x5 hw
      refine (hP33 z A x5).mpr ?_
      intro H locs ls hP hD hS hl
      have L81 : ∀ (z : Nat → Nat → Int) (A : Nat → Nat → Int) (x5 : Int), wp_c8_exchange_81 L K z r A y0 y1 y2 x3 x4 x5 P21 P33 Q → ∀ (H : Heap) (locs : List Loc) (ls : Array Slot), va_P D vwCl (cw_w C L K z r A) H → va_D Ad (cw_w C L K z r A) → va_S Ad s.heap H locs → lv_has ls 6 [(0, .ref y0), (1, .int (hz_i y1)), (2, .int (hz_i y2)), (3, .ref x3), (4, .int (hz_i x4)), (5, .int (hz_i x5))] → W p l e (headSpec wsX8_exchange ({ frames := 4, cells := 0, slots := 0, locals := 102 } : Room)).room s m (List.toArray [.ref y0, .int (hz_i y1), .int (hz_i y2)]) below meth c H locs 0 0 QQ (F0 m 81 ls []) := by
        intro z A x5 hw H locs ls hP hD hS hl
        obtain ⟨x5_27, hx5_27⟩ : ∃ y : Int, y = x5 + 1 := ⟨_, rfl⟩
        have hw := hw x5_27 hx5_27
        refine lv_iinc (v := hz_i x5_27) (lv' := [(5, .int (hz_i x5_27)), (0, .ref y0), (1, .int (hz_i y1)), (2, .int (hz_i y2)), (3, .ref x3), (4, .int (hz_i x4))]) hx hb dX8_exchange_81 hl (k := 5) rfl (by rw [hx5_27]; exact hz_i_add _ _) (by decide) rfl (fun ls hl => ?_)
        refine lv_goto (tgt := 33) hx hb dX8_exchange_84 (by decide) ?_
        exact (hP33 z A x5_27).mp hw H locs ls hP hD hS (lv_sub hl [1, 2, 3, 4, 5, 0] rfl)
      refine lv_iload hx hb dX8_exchange_33 (lv_at hl 5 rfl) ?_
      refine lv_aload_n hx hb dX8_exchange_35 rfl (lv_at hl 0 rfl) ?_
      obtain ⟨hO_28, hw⟩ := hw
      refine cw_get (ci := 8) (v := .int (hz_i (z y0 5))) hx hb hts hin8 hown hK hP hO_28.1 hO_28.2 rfl 5 (by decide) (hts (.fieldLink RX8 32 "HiddenMoves$Solver" "columns" "I") (List.mem_cons_of_mem _ (List.mem_append_left _ (List.mem_append_left _ (List.mem_append_left _ (List.mem_append_left _ (List.mem_of_getElem? (i := 3) rfl))))))) (fun _ h9 => h9) rfl dX8_exchange_36 ?_
      obtain ⟨h9a, hw⟩ := hw
      obtain ⟨h9b, hw⟩ := hw
      refine hz_icmp_gt (tgt := 87) hx hb dX8_exchange_39 (by decide) h9a h9b (fun c_29 => ?_) (fun c_29 => ?_)
      · have hw := hw.1 c_29
        exact L87 z A x4 hw H locs ls hP hD hS (lv_sub hl [0, 1, 2, 3, 4] rfl)
      · have hw := hw.2 c_29
        refine lv_iload hx hb dX8_exchange_42 (lv_at hl 4 rfl) ?_
        refine lv_iload_n hx hb dX8_exchange_44 rfl (lv_at hl 1 rfl) ?_
        obtain ⟨h9a, hw⟩ := hw
        obtain ⟨h9b, hw⟩ := hw
        refine hz_icmp_eq (tgt := 87) hx hb dX8_exchange_45 (by decide) h9a h9b (fun c_30 => ?_) (fun c_30 => ?_)
        · have hw := hw.1 c_30
          exact L87 z A x4 hw H locs ls hP hD hS (lv_sub hl [0, 1, 2, 3, 4] rfl)
        · have hw := hw.2 c_30
          refine lv_iload hx hb dX8_exchange_48 (lv_at hl 5 rfl) ?_
          refine lv_iload_n hx hb dX8_exchange_50 rfl (lv_at hl 2 rfl) ?_
          obtain ⟨h9a, hw⟩ := hw
          obtain ⟨h9b, hw⟩ := hw
          refine hz_icmp_eq (tgt := 81) hx hb dX8_exchange_51 (by decide) h9a h9b (fun c_31 => ?_) (fun c_31 => ?_)
          · have hw := hw.1 c_31
            exact L81 z A x5 hw H locs ls hP hD hS (lv_sub hl [0, 1, 2, 3, 4, 5] rfl)
          · have hw := hw.2 c_31
            refine lv_aload_n hx hb dX8_exchange_54 rfl (lv_at hl 0 rfl) ?_
            refine lv_aload_n hx hb dX8_exchange_55 rfl (lv_at hl 0 rfl) ?_
            refine lv_iload hx hb dX8_exchange_56 (lv_at hl 4 rfl) ?_
            refine lv_iload hx hb dX8_exchange_58 (lv_at hl 5 rfl) ?_
            have hFc := cw_free hD hS hA
            obtain ⟨q9, hq9⟩ := cw_at (C := C) (z := z) (r := r) (A := A) hO_28.1 hO_28.2
            refine va_callr (va_runV (As := [.int (hz_i x4), .int (hz_i x5)]) (rest := [.ref y0]) ⟨hx, hb, hml, hown, hts⟩ (k_c8_cell l D _ C L K z r A y0 x4 x5 _ hw) (cwV 2 hts gX8_exchange_X8_cell rfl rfl rfl (by decide +kernel) ⟨Nat.le_of_ble_eq_true rfl, Nat.le_of_ble_eq_true rfl⟩) ⟨hm_blind, va_recv hK hP (ci := 8) (q0 := q9) rfl hq9, hm_pre hP hK hD hE⟩ rfl rfl hl.1 rfl (lv_room (Nat.le_of_ble_eq_true rfl)) dX8_exchange_60 ⟨Nat.le_of_ble_eq_true rfl, Nat.le_of_ble_eq_true rfl⟩) hS (fun q _ h => hFc q h) hFc (fun u ra t H1 locs ht hvm hw hB hz1 hk1 hS => ?_)
            obtain ⟨rv_32, _, _, _⟩ := u
            obtain ⟨hra, hP, hK1, hD1⟩ := hB
            have hra := hra.symm
            subst hra
            rw [ht] at hP
            have hD := hD1.weaken (fun k q _ h => hFc q.1 h)
            have hP : va_P D vwCl (cw_w C L K z r A) H1 := hP
            have hD : va_D Ad (cw_w C L K z r A) := hD
            generalize H1 = H at hP hS ⊢
            refine W.eq (g2 := F0 m 63 ls [.ref rv_32, .ref y0]) rfl ?_
            refine lv_aload_n hx hb dX8_exchange_63 rfl (lv_at hl 3 rfl) ?_
            refine lv_aload_n hx hb dX8_exchange_64 rfl (lv_at hl 0 rfl) ?_
            refine lv_iload hx hb dX8_exchange_65 (lv_at hl 4 rfl) ?_
            refine lv_iload_n hx hb dX8_exchange_67 rfl (lv_at hl 2 rfl) ?_
            have hFc := cw_free hD hS hA
            obtain ⟨q9, hq9⟩ := cw_at (C := C) (z := z) (r := r) (A := A) hO_28.1 hO_28.2
            refine va_callr (va_runV (As := [.int (hz_i x4), .int (hz_i y2)]) (rest := [.ref x3, .ref rv_32, .ref y0]) ⟨hx, hb, hml, hown, hts⟩ (k_c8_cell l D _ C L K z r A y0 x4 y2 _ hw) (cwV 2 hts gX8_exchange_X8_cell rfl rfl rfl (by decide +kernel) ⟨Nat.le_of_ble_eq_true rfl, Nat.le_of_ble_eq_true rfl⟩) ⟨hm_blind, va_recv hK hP (ci := 8) (q0 := q9) rfl hq9, hm_pre hP hK hD hE⟩ rfl rfl hl.1 rfl (lv_room (Nat.le_of_ble_eq_true rfl)) dX8_exchange_68 ⟨Nat.le_of_ble_eq_true rfl, Nat.le_of_ble_eq_true rfl⟩) hS (fun q _ h => hFc q h) hFc (fun u ra t H1 locs ht hvm hw hB hz1 hk1 hS => ?_)
            obtain ⟨rv_33, _, _, _⟩ := u
            obtain ⟨hra, hP, hK1, hD1⟩ := hB
            have hra := hra.symm
            subst hra
            rw [ht] at hP
            have hD := hD1.weaken (fun k q _ h => hFc q.1 h)
            have hP : va_P D vwCl (cw_w C L K z r A) H1 := hP
            have hD : va_D Ad (cw_w C L K z r A) := hD
            generalize H1 = H at hP hS ⊢
            refine W.eq (g2 := F0 m 71 ls [.ref rv_33, .ref x3, .ref rv_32, .ref y0]) rfl ?_
            refine lv_aload_n hx hb dX8_exchange_71 rfl (lv_at hl 0 rfl) ?_
            refine lv_iload_n hx hb dX8_exchange_72 rfl (lv_at hl 1 rfl) ?_
            refine lv_iload hx hb dX8_exchange_73 (lv_at hl 5 rfl) ?_
            have hFc := cw_free hD hS hA
            obtain ⟨q9, hq9⟩ := cw_at (C := C) (z := z) (r := r) (A := A) hO_28.1 hO_28.2
            refine va_callr (va_runV (As := [.int (hz_i y1), .int (hz_i x5)]) (rest := [.ref rv_33, .ref x3, .ref rv_32, .ref y0]) ⟨hx, hb, hml, hown, hts⟩ (k_c8_cell l D _ C L K z r A y0 y1 x5 _ hw) (cwV 2 hts gX8_exchange_X8_cell rfl rfl rfl (by decide +kernel) ⟨Nat.le_of_ble_eq_true rfl, Nat.le_of_ble_eq_true rfl⟩) ⟨hm_blind, va_recv hK hP (ci := 8) (q0 := q9) rfl hq9, hm_pre hP hK hD hE⟩ rfl rfl hl.1 rfl (lv_room (Nat.le_of_ble_eq_true rfl)) dX8_exchange_75 ⟨Nat.le_of_ble_eq_true rfl, Nat.le_of_ble_eq_true rfl⟩) hS (fun q _ h => hFc q h) hFc (fun u ra t H1 locs ht hvm hw hB hz1 hk1 hS => ?_)
            obtain ⟨rv_34, _, _, _⟩ := u
            obtain ⟨hra, hP, hK1, hD1⟩ := hB
            have hra := hra.symm
            subst hra
            rw [ht] at hP
            have hD := hD1.weaken (fun k q _ h => hFc q.1 h)
            have hP : va_P D vwCl (cw_w C L K z r A) H1 := hP
            have hD : va_D Ad (cw_w C L K z r A) := hD
            generalize H1 = H at hP hS ⊢
            refine W.eq (g2 := F0 m 78 ls [.ref rv_34, .ref rv_33, .ref x3, .ref rv_32, .ref y0]) rfl ?_
            have hFc := cw_free hD hS hA
            obtain ⟨q9, hq9⟩ := cw_at (C := C) (z := z) (r := r) (A := A) hO_28.1 hO_28.2
            refine va_callv (va_runV (As := [.ref rv_32, .ref x3, .ref rv_33, .ref rv_34]) (rest := []) ⟨hx, hb, hml, hown, hts⟩ (k_c8_renew l D _ C L K z r A y0 rv_32 x3 rv_33 rv_34 _ hw) (cwV 4 hts gX8_exchange_X8_renew rfl rfl rfl (by decide +kernel) ⟨Nat.le_of_ble_eq_true rfl, Nat.le_of_ble_eq_true rfl⟩) ⟨hm_blind, va_recv hK hP (ci := 8) (q0 := q9) rfl hq9, hm_pre hP hK hD hE⟩ rfl rfl hl.1 rfl (lv_room (Nat.le_of_ble_eq_true rfl)) dX8_exchange_78 ⟨Nat.le_of_ble_eq_true rfl, Nat.le_of_ble_eq_true rfl⟩) hS (fun q _ h => hFc q h) hFc (fun u t H1 locs ht hvm hw hB hz1 hk1 hS => ?_)
            obtain ⟨rv_35, z_36, _, A_37⟩ := u
            obtain ⟨hP, hK1, hD1⟩ := hB
            rw [ht] at hP
            have hD := hD1.weaken (fun k q _ h => hFc q.1 h)
            have hP : va_P D vwCl (cw_w C L K z_36 r A_37) H1 := hP
            have hD : va_D Ad (cw_w C L K z_36 r A_37) := hD
            generalize H1 = H at hP hS ⊢
            refine W.eq (g2 := F0 m 81 ls []) rfl ?_
            exact L81 z_36 A_37 x5 hw H locs ls hP hD hS (lv_sub hl [0, 1, 2, 3, 4, 5] rfl)
    refine lv_iload hx hb dX8_exchange_21 (lv_at hl 4 rfl) ?_
    refine lv_aload_n hx hb dX8_exchange_23 rfl (lv_at hl 0 rfl) ?_
    obtain ⟨hO_38, hw⟩ := hw
    refine cw_get (ci := 8) (v := .int (hz_i (z y0 4))) hx hb hts hin8 hown hK hP hO_38.1 hO_38.2 rfl 4 (by decide) (hts (.fieldLink RX8 28 "HiddenMoves$Solver" "rows" "I") (List.mem_cons_of_mem _ (List.mem_append_left _ (List.mem_append_left _ (List.mem_append_left _ (List.mem_append_left _ (List.mem_of_getElem? (i := 2) rfl))))))) (fun _ h9 => h9) rfl dX8_exchange_24 ?_
    obtain ⟨h9a, hw⟩ := hw
    obtain ⟨h9b, hw⟩ := hw
    refine hz_icmp_gt (tgt := 93) hx hb dX8_exchange_27 (by decide) h9a h9b (fun c_39 => ?_) (fun c_39 => ?_)
    · have hw := hw.1 c_39
      refine lv_iconst (v := hz_i 0) hx hb dX8_exchange_93 (by decide +kernel) ?_
      refine lv_istore (lv' := [(4, .int (hz_i 0)), (0, .ref y0), (1, .int (hz_i y1)), (2, .int (hz_i y2)), (3, .ref x3)]) hx hb dX8_exchange_94 hl (by decide) rfl (fun ls hl => ?_)
      exact L96 z A x3 0 hw H locs ls hP hD hS (lv_sub hl [1, 2, 3, 4, 0] rfl)
    · have hw := hw.2 c_39
      refine lv_iconst (v := hz_i 0) hx hb dX8_exchange_30 (by decide +kernel) ?_
      refine lv_istore (lv' := [(5, .int (hz_i 0)), (0, .ref y0), (1, .int (hz_i y1)), (2, .int (hz_i y2)), (3, .ref x3), (4, .int (hz_i x4))]) hx hb dX8_exchange_31 hl (by decide) rfl (fun ls hl => ?_)
      exact L33 z A x4 0 hw H locs ls hP hD hS (lv_sub hl [1, 2, 3, 4, 5, 0] rfl)
  have hP := hP0; have hD := hD0; have hS := hS0; have hl := hl0; have hw := hw0
  obtain ⟨H, hH⟩ : ∃ H : Heap, H = s.heap := ⟨_, rfl⟩
  obtain ⟨locs, hlocs⟩ : ∃ L : List Loc, L = [] := ⟨_, rfl⟩
  rw [← hH] at hP
  have hS : va_S Ad s.heap H locs := by rw [hH, hlocs]; exact hS
  refine mw_HL hH hlocs ?_
  refine lv_aload_n hx hb dX8_exchange_0 rfl (lv_at hl 0 rfl) ?_
  obtain ⟨hO_40, hw⟩ := hw
  refine cw_get (ci := 8) (v := .ref (r y0 12)) hx hb hts hin8 hown hK hP hO_40.1 hO_40.2 rfl 12 (by decide) (hts (.fieldLink RX8 61 "HiddenMoves$Solver" "divider" "LHiddenMoves$Divider;") (List.mem_cons_of_mem _ (List.mem_append_left _ (List.mem_append_left _ (List.mem_append_left _ (List.mem_append_left _ (List.mem_of_getElem? (i := 0) rfl))))))) (fun _ h9 => h9) rfl dX8_exchange_1 ?_
  refine lv_aload_n hx hb dX8_exchange_4 rfl (lv_at hl 0 rfl) ?_
  refine cw_get (ci := 8) (v := .ref (r y0 9)) hx hb hts hin8 hown hK hP hO_40.1 hO_40.2 rfl 9 (by decide) (hts (.fieldLink RX8 48 "HiddenMoves$Solver" "scale" "LHiddenMoves$Big;") (List.mem_cons_of_mem _ (List.mem_append_left _ (List.mem_append_left _ (List.mem_append_left _ (List.mem_append_left _ (List.mem_of_getElem? (i := 1) rfl))))))) (fun _ h9 => h9) rfl dX8_exchange_5 ?_
  obtain ⟨hO_44, hw⟩ := hw
  have hFc := cw_free hD hS hA
  obtain ⟨q9, hq9⟩ := cw_at (C := C) (z := z) (r := r) (A := A) hO_44.1 hO_44.2
  refine va_callv (va_runV (As := [.ref (r y0 9)]) (rest := []) ⟨hx, hb, hml, hown, hts⟩ (k_c1_prepare l D _ C L K z r A (r y0 12) (r y0 9) _ hw) (cwV 1 hts gX8_exchange_X1_prepare rfl rfl rfl (by decide +kernel) ⟨Nat.le_of_ble_eq_true rfl, Nat.le_of_ble_eq_true rfl⟩) ⟨hm_blind, va_recv hK hP (ci := 1) (q0 := q9) rfl hq9, hm_pre hP hK hD hE⟩ rfl rfl hl.1 rfl (lv_room (Nat.le_of_ble_eq_true rfl)) dX8_exchange_8 ⟨Nat.le_of_ble_eq_true rfl, Nat.le_of_ble_eq_true rfl⟩) hS (fun q _ h => hFc q h) hFc (fun u t H1 locs ht hvm hw hB hz1 hk1 hS => ?_)
  obtain ⟨rv_41, z_42, _, A_43⟩ := u
  obtain ⟨hP, hK1, hD1⟩ := hB
  rw [ht] at hP
  have hD := hD1.weaken (fun k q _ h => hFc q.1 h)
  have hP : va_P D vwCl (cw_w C L K z_42 r A_43) H1 := hP
  have hD : va_D Ad (cw_w C L K z_42 r A_43) := hD
  generalize H1 = H at hP hS ⊢
  refine W.eq (g2 := F0 m 11 ls []) rfl ?_
  refine lv_aload_n hx hb dX8_exchange_11 rfl (lv_at hl 0 rfl) ?_
  refine lv_iload_n hx hb dX8_exchange_12 rfl (lv_at hl 1 rfl) ?_
  refine lv_iload_n hx hb dX8_exchange_13 rfl (lv_at hl 2 rfl) ?_
  have hFc := cw_free hD hS hA
  obtain ⟨q9, hq9⟩ := cw_at (C := C) (z := z_42) (r := r) (A := A_43) hO_40.1 hO_40.2
  refine va_callr (va_runV (As := [.int (hz_i y1), .int (hz_i y2)]) (rest := []) ⟨hx, hb, hml, hown, hts⟩ (k_c8_cell l D _ C L K z_42 r A_43 y0 y1 y2 _ hw) (cwV 2 hts gX8_exchange_X8_cell rfl rfl rfl (by decide +kernel) ⟨Nat.le_of_ble_eq_true rfl, Nat.le_of_ble_eq_true rfl⟩) ⟨hm_blind, va_recv hK hP (ci := 8) (q0 := q9) rfl hq9, hm_pre hP hK hD hE⟩ rfl rfl hl.1 rfl (lv_room (Nat.le_of_ble_eq_true rfl)) dX8_exchange_14 ⟨Nat.le_of_ble_eq_true rfl, Nat.le_of_ble_eq_true rfl⟩) hS (fun q _ h => hFc q h) hFc (fun u ra t H1 locs ht hvm hw hB hz1 hk1 hS => ?_)
  obtain ⟨rv_45, _, _, _⟩ := u
  obtain ⟨hra, hP, hK1, hD1⟩ := hB
  have hra := hra.symm
  subst hra
  rw [ht] at hP
  have hD := hD1.weaken (fun k q _ h => hFc q.1 h)
  have hP : va_P D vwCl (cw_w C L K z_42 r A_43) H1 := hP
  have hD : va_D Ad (cw_w C L K z_42 r A_43) := hD
  generalize H1 = H at hP hS ⊢
  refine W.eq (g2 := F0 m 17 ls [.ref rv_45]) rfl ?_
  refine lv_astore_n (lv' := [(3, .ref rv_45), (0, .ref y0), (1, .int (hz_i y1)), (2, .int (hz_i y2))]) hx hb dX8_exchange_17 rfl hl (by decide) rfl (fun ls hl => ?_)
  refine lv_iconst (v := hz_i 0) hx hb dX8_exchange_18 (by decide +kernel) ?_
  refine lv_istore (lv' := [(4, .int (hz_i 0)), (3, .ref rv_45), (0, .ref y0), (1, .int (hz_i y1)), (2, .int (hz_i y2))]) hx hb dX8_exchange_19 hl (by decide) rfl (fun ls hl => ?_)
  exact L21 z_42 A_43 rv_45 0 hw H locs ls hP hD hS (lv_sub hl [2, 3, 4, 1, 0] rfl)

noncomputable def wp_c8_work_32 (L : List Nat) (K : Nat → cw_K) (z : Nat → Nat → Int) (r : Nat → Nat → Nat) (A : Nat → Nat → Int) (y0 : Nat) (x2 : Int) (x3 : Int) (t0 : Int) (P7 : (Nat → Nat → Int) → (Nat → Nat → Int) → Int → Prop) (Q : (Nat → Nat → Int) → (Nat → Nat → Int) → Prop) : Prop := hz_rI t0 ∧ ((¬ t0 = (-1) → cw_O L K 8 y0 ∧ wp_c8_exchange L K z r A y0 t0 x3 (fun z_3 A_4 => ∀ x2_6 : Int, x2_6 = x2 + 1 → P7 z_3 A_4 x2_6)) ∧ (t0 = (-1) → Q z A))
noncomputable def wp_c8_work_7 (L : List Nat) (K : Nat → cw_K) (z : Nat → Nat → Int) (r : Nat → Nat → Nat) (A : Nat → Nat → Int) (y0 : Nat) (x2 : Int) (Q : (Nat → Nat → Int) → (Nat → Nat → Int) → Prop) : Prop := ∀ P7 : (Nat → Nat → Int) → (Nat → Nat → Int) → Int → Prop, (∀ (z : Nat → Nat → Int) (A : Nat → Nat → Int) (x2 : Int), hz_rI x2 ∧ ((1000000 ≤ x2 → Q z A) ∧ (¬ (1000000 ≤ x2) → cw_O L K 8 y0 ∧ wp_c8_entering L K z r A y0 (fun rv_8 => hz_rI rv_8 ∧ ((¬ rv_8 = (-1) → wp_c8_leaving L K z r A y0 rv_8 (fun rv_11 z_12 A_13 => wp_c8_work_32 L K z_12 r A_13 y0 x2 rv_8 rv_11 P7 Q)) ∧ (rv_8 = (-1) → wp_c8_work_32 L K z r A y0 x2 rv_8 (-1) P7 Q))))) → P7 z A x2) → P7 z A x2
noncomputable def wp_c8_work (L : List Nat) (K : Nat → cw_K) (z : Nat → Nat → Int) (r : Nat → Nat → Nat) (A : Nat → Nat → Int) (y0 : Nat) (y1 : Nat) (Q : (Nat → Nat → Int) → (Nat → Nat → Int) → Prop) : Prop := cw_O L K 8 y0 ∧ wp_c8_setUp L K z r A y0 y1 (fun z_15 A_16 => wp_c8_work_7 L K z_15 r A_16 y0 0  Q)
set_option maxHeartbeats 4000000 in
set_option maxRecDepth 100000 in
theorem k_c8_work (l : Launch) (D : va_G) (sz : Nat) (C : Nat → ClassId) (L : List Nat) (K : Nat → cw_K) (z : Nat → Nat → Int) (r : Nat → Nat → Nat) (A : Nat → Nat → Int) (y0 : Nat) (y1 : Nat) (Q : (Nat → Nat → Int) → (Nat → Nat → Int) → Prop) (hw : wp_c8_work L K z r A y0 y1 Q) : Met l yX8_work wsX8_work ({ frames := 5, cells := 0, slots := 0, locals := 127 } : Room) (va_Pc [.ref y0, .ref y1] (hm_P D (cw_w C L K z r A) (cw_t C) sz)) (va_Qv (S := Int × (Nat → Nat → Int) × (Nat → Nat → Nat) × (Nat → Nat → Int)) (fun u => Q u.2.1 u.2.2.2) (fun u t => hm_B D (va_A (cw_w C L K z r A) sz) (cw_w C L K u.2.1 r u.2.2.2) (cw_t C) t) (va_A (cw_w C L K z r A) sz)) 0 0 (va_A (cw_w C L K z r A) sz) := by
  refine Met.ofW (cc := cX8_work) (maxL := 5) (ret := none) (by decide) rfl ?_
  intro p e s m args below meth c s₁ B hml hv
  obtain ⟨rfl, hsz, hP, hK, hD0, hE⟩ := hv
  have hx := B.exec
  have hb := B.bytes
  have hr := B.returns
  have hts := atoms_spec (ws := wsX8_work) B.pre
  have hown : s.vm.findClass RX8 = some m.cls := findClass_of_methodNamed B.named
  have hlocks := B.notSynchronized
  subst hsz
  have hD := hD0.self (sz := s.heap.size)
  generalize hAe : va_A (cw_w C L K z r A) s.heap.size = Ad at hD ⊢
  have hA : ∀ q : Nat, s.heap.size ≤ q → Ad q := fun q h => by rw [← hAe]; exact Or.inr h
  have hS : va_S Ad s.heap s.heap [] := va_S.rf
  have hl := lv_entry ([.ref y0, .ref y1]) (n := 5) (Nat.le_of_ble_eq_true rfl)
  rw [lg_entry_eq]
  generalize (lg_sl ([.ref y0, .ref y1]) ++ List.replicate (5 - (lg_sl ([.ref y0, .ref y1])).length) Slot.unset).toArray = ls at hl ⊢
  have hl : lv_has ls 5 [(0, .ref y0), (1, .ref y1)] := hl
  refine mw_Q (fun QQ hQQ => ?_)
  have hP0 := hP; have hD0 := hD; have hS0 := hS; have hl0 := hl; have hw0 := hw
  clear hP hD hS hl hw
  have L7 : ∀ (z : Nat → Nat → Int) (A : Nat → Nat → Int) (x2 : Int), wp_c8_work_7 L K z r A y0 x2  Q → ∀ (H : Heap) (locs : List Loc) (ls : Array Slot), va_P D vwCl (cw_w C L K z r A) H → va_D Ad (cw_w C L K z r A) → va_S Ad s.heap H locs → lv_has ls 5 [(0, .ref y0), (2, .int (hz_i x2))] → W p l e (headSpec wsX8_work ({ frames := 5, cells := 0, slots := 0, locals := 127 } : Room)).room s m (List.toArray [.ref y0, .ref y1]) below meth c H locs 0 0 QQ (F0 m 7 ls []) := by
    intro z A x2 hw
    obtain ⟨P7, hP7⟩ : ∃ P : (Nat → Nat → Int) → (Nat → Nat → Int) → Int → Prop, ∀ (z : Nat → Nat → Int) (A : Nat → Nat → Int) (x2 : Int), P z A x2 ↔ (∀ (H : Heap) (locs : List Loc) (ls : Array Slot), va_P D vwCl (cw_w C L K z r A) H → va_D Ad (cw_w C L K z r A) → va_S Ad s.heap H locs → lv_has ls 5 [(0, .ref y0), (2, .int (hz_i x2))] → W p l e (headSpec wsX8_work ({ frames := 5, cells := 0, slots := 0, locals := 127 } : Room)).room s m (List.toArray [.ref y0, .ref y1]) below meth c H locs 0 0 QQ (F0 m 7 ls [])) := ⟨fun (z : Nat → Nat → Int) (A : Nat → Nat → Int) (x2 : Int) => ∀ (H : Heap) (locs : List Loc) (ls : Array Slot), va_P D vwCl (cw_w C L K z r A) H → va_D Ad (cw_w C L K z r A) → va_S Ad s.heap H locs → lv_has ls 5 [(0, .ref y0), (2, .int (hz_i x2))] → W p l e (headSpec wsX8_work ({ frames := 5, cells := 0, slots := 0, locals := 127 } : Room)).room s m (List.toArray [.ref y0, .ref y1]) below meth c H locs 0 0 QQ (F0 m 7 ls []), fun _ _ _ => Iff.rfl⟩
    refine (hP7 z A x2).mp (hw P7 ?_)
    intro z A x2 hw
    refine (hP7 z A x2).mpr ?_
    intro H locs ls hP hD hS hl
    have L32 : ∀ (z : Nat → Nat → Int) (A : Nat → Nat → Int) (x2 : Int) (x3 : Int) (t0 : Int), wp_c8_work_32 L K z r A y0 x2 x3 t0 P7 Q → ∀ (H : Heap) (locs : List Loc) (ls : Array Slot), va_P D vwCl (cw_w C L K z r A) H → va_D Ad (cw_w C L K z r A) → va_S Ad s.heap H locs → lv_has ls 5 [(0, .ref y0), (2, .int (hz_i x2)), (3, .int (hz_i x3))] → W p l e (headSpec wsX8_work ({ frames := 5, cells := 0, slots := 0, locals := 127 } : Room)).room s m (List.toArray [.ref y0, .ref y1]) below meth c H locs 0 0 QQ (F0 m 32 ls [.int (hz_i t0)]) := by
      intro z A x2 x3 t0 hw H locs ls hP hD hS hl
      refine lv_istore (lv' := [(4, .int (hz_i t0)), (0, .ref y0), (2, .int (hz_i x2)), (3, .int (hz_i x3))]) hx hb dX8_work_32 hl (by decide) rfl (fun ls hl => ?_)
      refine lv_iload hx hb dX8_work_34 (lv_at hl 0 rfl) ?_
      refine lv_iconst (v := hz_i (-1)) hx hb dX8_work_36 (by decide +kernel) ?_
      obtain ⟨h9a, hw⟩ := hw
      refine hz_icmp_ne (tgt := 41) hx hb dX8_work_37 (by decide) h9a ⟨by decide, by decide⟩ (fun c_1 => ?_) (fun c_1 => ?_)
      · have hw := hw.1 c_1
        refine lv_aload_n hx hb dX8_work_41 rfl (lv_at hl 1 rfl) ?_
        refine lv_iload hx hb dX8_work_42 (lv_at hl 0 rfl) ?_
        refine lv_iload_n hx hb dX8_work_44 rfl (lv_at hl 3 rfl) ?_
        obtain ⟨hO_5, hw⟩ := hw
        have hFc := cw_free hD hS hA
        obtain ⟨q9, hq9⟩ := cw_at (C := C) (z := z) (r := r) (A := A) hO_5.1 hO_5.2
        refine va_callv (va_runV (As := [.int (hz_i t0), .int (hz_i x3)]) (rest := []) ⟨hx, hb, hml, hown, hts⟩ (k_c8_exchange l D _ C L K z r A y0 t0 x3 _ hw) (cwV 2 hts gX8_work_X8_exchange rfl rfl rfl (by decide +kernel) ⟨Nat.le_of_ble_eq_true rfl, Nat.le_of_ble_eq_true rfl⟩) ⟨hm_blind, va_recv hK hP (ci := 8) (q0 := q9) rfl hq9, hm_pre hP hK hD hE⟩ rfl rfl hl.1 rfl (lv_room (Nat.le_of_ble_eq_true rfl)) dX8_work_45 ⟨Nat.le_of_ble_eq_true rfl, Nat.le_of_ble_eq_true rfl⟩) hS (fun q _ h => hFc q h) hFc (fun u t H1 locs ht hvm hw hB hz1 hk1 hS => ?_)
        obtain ⟨rv_2, z_3, _, A_4⟩ := u
        obtain ⟨hP, hK1, hD1⟩ := hB
        rw [ht] at hP
        have hD := hD1.weaken (fun k q _ h => hFc q.1 h)
        have hP : va_P D vwCl (cw_w C L K z_3 r A_4) H1 := hP
        have hD : va_D Ad (cw_w C L K z_3 r A_4) := hD
        generalize H1 = H at hP hS ⊢
        refine W.eq (g2 := F0 m 48 ls []) rfl ?_
        obtain ⟨x2_6, hx2_6⟩ : ∃ y : Int, y = x2 + 1 := ⟨_, rfl⟩
        have hw := hw x2_6 hx2_6
        refine lv_iinc (v := hz_i x2_6) (lv' := [(2, .int (hz_i x2_6)), (4, .int (hz_i t0)), (0, .ref y0), (3, .int (hz_i x3))]) hx hb dX8_work_48 hl (k := 2) rfl (by rw [hx2_6]; exact hz_i_add _ _) (by decide) rfl (fun ls hl => ?_)
        refine lv_goto (tgt := 7) hx hb dX8_work_51 (by decide) ?_
        exact (hP7 z_3 A_4 x2_6).mp hw H locs ls hP hD hS (lv_sub hl [2, 0] rfl)
      · have hw := hw.2 c_1
        subst hQQ
        subst hAe
        exact W.vret hx hb hr (fun t ht hW => ⟨⟨(0, z, r, A), rfl, hw, by rw [ht]; exact hP, va_K.moved hW.alike hK, hD⟩, hS.F ht⟩) hS.2.2 dX8_work_40
    refine lv_iload_n hx hb dX8_work_7 rfl (lv_at hl 1 rfl) ?_
    refine lv_ldc hx hb hown (hts (.constant RX8 69 (1000000)) (List.mem_cons_of_mem _ (List.mem_append_left _ (List.mem_append_left _ (List.mem_append_left _ (List.mem_append_left _ (List.mem_append_left _ (List.mem_append_left _ (List.mem_of_getElem? (i := 0) rfl))))))))) dX8_work_8 ?_
    refine hz_asi (b := 1000000) (by decide +kernel) ?_
    obtain ⟨h9a, hw⟩ := hw
    refine hz_icmp_ge (tgt := 54) hx hb dX8_work_10 (by decide) h9a ⟨by decide, by decide⟩ (fun c_7 => ?_) (fun c_7 => ?_)
    · have hw := hw.1 c_7
      subst hQQ
      subst hAe
      exact W.vret hx hb hr (fun t ht hW => ⟨⟨(0, z, r, A), rfl, hw, by rw [ht]; exact hP, va_K.moved hW.alike hK, hD⟩, hS.F ht⟩) hS.2.2 dX8_work_54
    · have hw := hw.2 c_7
      refine lv_aload_n hx hb dX8_work_13 rfl (lv_at hl 0 rfl) ?_
      obtain ⟨hO_9, hw⟩ := hw
      have hFc := cw_free hD hS hA
      obtain ⟨q9, hq9⟩ := cw_at (C := C) (z := z) (r := r) (A := A) hO_9.1 hO_9.2
      refine va_calli (va_runV (As := []) (rest := []) ⟨hx, hb, hml, hown, hts⟩ (k_c8_entering l D _ C L K z r A y0 _ hw) (cwV 0 hts gX8_work_X8_entering rfl rfl rfl (by decide +kernel) ⟨Nat.le_of_ble_eq_true rfl, Nat.le_of_ble_eq_true rfl⟩) ⟨hm_blind, va_recv hK hP (ci := 8) (q0 := q9) rfl hq9, hm_pre hP hK hD hE⟩ rfl rfl hl.1 rfl (lv_room (Nat.le_of_ble_eq_true rfl)) dX8_work_14 ⟨Nat.le_of_ble_eq_true rfl, Nat.le_of_ble_eq_true rfl⟩) hS (fun q _ h => hFc q h) hFc (fun rv u t H1 locs ht hvm hw hB hz1 hk1 hS => ?_)
      obtain ⟨rv_8, _, _, _⟩ := u
      obtain ⟨hP, hK1, hD1⟩ := hB
      rw [ht] at hP
      obtain ⟨hrv, hw⟩ := hw
      subst hrv
      have hD := hD1.weaken (fun k q _ h => hFc q.1 h)
      have hP : va_P D vwCl (cw_w C L K z r A) H1 := hP
      have hD : va_D Ad (cw_w C L K z r A) := hD
      generalize H1 = H at hP hS ⊢
      refine W.eq (g2 := F0 m 17 ls [.int (hz_i rv_8)]) rfl ?_
      refine lv_istore_n (lv' := [(3, .int (hz_i rv_8)), (0, .ref y0), (2, .int (hz_i x2))]) hx hb dX8_work_17 rfl hl (by decide) rfl (fun ls hl => ?_)
      refine lv_iload_n hx hb dX8_work_18 rfl (lv_at hl 0 rfl) ?_
      refine lv_iconst (v := hz_i (-1)) hx hb dX8_work_19 (by decide +kernel) ?_
      obtain ⟨h9a, hw⟩ := hw
      refine hz_icmp_ne (tgt := 27) hx hb dX8_work_20 (by decide) h9a ⟨by decide, by decide⟩ (fun c_10 => ?_) (fun c_10 => ?_)
      · have hw := hw.1 c_10
        refine lv_aload_n hx hb dX8_work_27 rfl (lv_at hl 1 rfl) ?_
        refine lv_iload_n hx hb dX8_work_28 rfl (lv_at hl 0 rfl) ?_
        have hFc := cw_free hD hS hA
        obtain ⟨q9, hq9⟩ := cw_at (C := C) (z := z) (r := r) (A := A) hO_9.1 hO_9.2
        refine va_calli (va_runV (As := [.int (hz_i rv_8)]) (rest := []) ⟨hx, hb, hml, hown, hts⟩ (k_c8_leaving l D _ C L K z r A y0 rv_8 _ hw) (cwV 1 hts gX8_work_X8_leaving rfl rfl rfl (by decide +kernel) ⟨Nat.le_of_ble_eq_true rfl, Nat.le_of_ble_eq_true rfl⟩) ⟨hm_blind, va_recv hK hP (ci := 8) (q0 := q9) rfl hq9, hm_pre hP hK hD hE⟩ rfl rfl hl.1 rfl (lv_room (Nat.le_of_ble_eq_true rfl)) dX8_work_29 ⟨Nat.le_of_ble_eq_true rfl, Nat.le_of_ble_eq_true rfl⟩) hS (fun q _ h => hFc q h) hFc (fun rv u t H1 locs ht hvm hw hB hz1 hk1 hS => ?_)
        obtain ⟨rv_11, z_12, _, A_13⟩ := u
        obtain ⟨hP, hK1, hD1⟩ := hB
        rw [ht] at hP
        obtain ⟨hrv, hw⟩ := hw
        subst hrv
        have hD := hD1.weaken (fun k q _ h => hFc q.1 h)
        have hP : va_P D vwCl (cw_w C L K z_12 r A_13) H1 := hP
        have hD : va_D Ad (cw_w C L K z_12 r A_13) := hD
        generalize H1 = H at hP hS ⊢
        refine W.eq (g2 := F0 m 32 ls [.int (hz_i rv_11)]) rfl ?_
        exact L32 z_12 A_13 x2 rv_8 rv_11 hw H locs ls hP hD hS (lv_sub hl [1, 2, 0] rfl)
      · have hw := hw.2 c_10
        refine lv_iconst (v := hz_i (-1)) hx hb dX8_work_23 (by decide +kernel) ?_
        refine lv_goto (tgt := 32) hx hb dX8_work_24 (by decide) ?_
        exact L32 z A x2 rv_8 (-1) hw H locs ls hP hD hS (lv_sub hl [1, 2, 0] rfl)
  have hP := hP0; have hD := hD0; have hS := hS0; have hl := hl0; have hw := hw0
  obtain ⟨H, hH⟩ : ∃ H : Heap, H = s.heap := ⟨_, rfl⟩
  obtain ⟨locs, hlocs⟩ : ∃ L : List Loc, L = [] := ⟨_, rfl⟩
  rw [← hH] at hP
  have hS : va_S Ad s.heap H locs := by rw [hH, hlocs]; exact hS
  refine mw_HL hH hlocs ?_
  refine lv_aload_n hx hb dX8_work_0 rfl (lv_at hl 0 rfl) ?_
  refine lv_aload_n hx hb dX8_work_1 rfl (lv_at hl 1 rfl) ?_
  obtain ⟨hO_17, hw⟩ := hw
  have hFc := cw_free hD hS hA
  obtain ⟨q9, hq9⟩ := cw_at (C := C) (z := z) (r := r) (A := A) hO_17.1 hO_17.2
  refine va_callv (va_runV (As := [.ref y1]) (rest := []) ⟨hx, hb, hml, hown, hts⟩ (k_c8_setUp l D _ C L K z r A y0 y1 _ hw) (cwV 1 hts gX8_work_X8_setUp rfl rfl rfl (by decide +kernel) ⟨Nat.le_of_ble_eq_true rfl, Nat.le_of_ble_eq_true rfl⟩) ⟨hm_blind, va_recv hK hP (ci := 8) (q0 := q9) rfl hq9, hm_pre hP hK hD hE⟩ rfl rfl hl.1 rfl (lv_room (Nat.le_of_ble_eq_true rfl)) dX8_work_2 ⟨Nat.le_of_ble_eq_true rfl, Nat.le_of_ble_eq_true rfl⟩) hS (fun q _ h => hFc q h) hFc (fun u t H1 locs ht hvm hw hB hz1 hk1 hS => ?_)
  obtain ⟨rv_14, z_15, _, A_16⟩ := u
  obtain ⟨hP, hK1, hD1⟩ := hB
  rw [ht] at hP
  have hD := hD1.weaken (fun k q _ h => hFc q.1 h)
  have hP : va_P D vwCl (cw_w C L K z_15 r A_16) H1 := hP
  have hD : va_D Ad (cw_w C L K z_15 r A_16) := hD
  generalize H1 = H at hP hS ⊢
  refine W.eq (g2 := F0 m 5 ls []) rfl ?_
  refine lv_iconst (v := hz_i 0) hx hb dX8_work_5 (by decide +kernel) ?_
  refine lv_istore_n (lv' := [(2, .int (hz_i 0)), (0, .ref y0), (1, .ref y1)]) hx hb dX8_work_6 rfl hl (by decide) rfl (fun ls hl => ?_)
  exact L7 z_15 A_16 0 hw H locs ls hP hD hS (lv_sub hl [1, 0] rfl)

noncomputable def wp_c8_handOver_176 (L : List Nat) (K : Nat → cw_K) (z : Nat → Nat → Int) (r : Nat → Nat → Nat) (A : Nat → Nat → Int) (y0 : Nat) (y2 : Nat) (x3 : Int) (P118 : (Nat → Nat → Int) → (Nat → Nat → Int) → Int → Prop) (Q : (Nat → Nat → Int) → (Nat → Nat → Int) → Prop) : Prop := ∀ x3_1 : Int, x3_1 = x3 + 1 → P118 z A x3_1
noncomputable def wp_c8_handOver_118 (L : List Nat) (K : Nat → cw_K) (z : Nat → Nat → Int) (r : Nat → Nat → Nat) (A : Nat → Nat → Int) (y0 : Nat) (y2 : Nat) (x3 : Int) (Q : (Nat → Nat → Int) → (Nat → Nat → Int) → Prop) : Prop := ∀ P118 : (Nat → Nat → Int) → (Nat → Nat → Int) → Int → Prop, (∀ (z : Nat → Nat → Int) (A : Nat → Nat → Int) (x3 : Int), cw_O L K 8 y0 ∧ hz_rI x3 ∧ hz_rI (z y0 5) ∧ ((z y0 5 ≤ x3 → Q z A) ∧ (¬ (z y0 5 ≤ x3) → cw_A L K 0 (r y0 2) ∧ ((0 : Int) ≤ x3 ∧ x3 < (cw_n K (r y0 2) : Int)) ∧ ∀ x4_5 : Int, x4_5 = (A (r y0 2) (x3.toNat)) - (z y0 5) → hz_rI x4_5 ∧ ((x4_5 < 0 → wp_c8_handOver_176 L K z r A y0 y2 x3 P118 Q) ∧ (¬ (x4_5 < 0) → hz_rI x4_5 ∧ hz_rI ((z y0 7) - 1) ∧ (((z y0 7) - 1 ≤ x4_5 → wp_c8_handOver_176 L K z r A y0 y2 x3 P118 Q) ∧ (¬ ((z y0 7) - 1 ≤ x4_5) → cw_O L K 3 y2 ∧ cw_G L K 4 (r y2 0) ∧ ((0 : Int) ≤ x4_5 + 1 ∧ x4_5 + 1 < (cw_n K (r y2 0) : Int)) ∧ wp_c8_cell L K z r A y0 (z y0 4) x3 (fun rv_10 => cw_O L K 0 (cw_g K (r y2 0) ((x4_5 + 1).toNat)) ∧ wp_c0_copy L K z r A (cw_g K (r y2 0) ((x4_5 + 1).toNat)) rv_10 (fun z_12 A_13 => wp_c8_handOver_176 L K z_12 r A_13 y0 y2 x3 P118 Q)))))))) → P118 z A x3) → P118 z A x3
noncomputable def wp_c8_handOver_110 (L : List Nat) (K : Nat → cw_K) (z : Nat → Nat → Int) (r : Nat → Nat → Nat) (A : Nat → Nat → Int) (y0 : Nat) (y1 : Nat) (y2 : Nat) (x3 : Int) (P62 : (Nat → Nat → Int) → (Nat → Nat → Int) → Int → Prop) (Q : (Nat → Nat → Int) → (Nat → Nat → Int) → Prop) : Prop := ∀ x3_15 : Int, x3_15 = x3 + 1 → P62 z A x3_15
noncomputable def wp_c8_handOver_62 (L : List Nat) (K : Nat → cw_K) (z : Nat → Nat → Int) (r : Nat → Nat → Nat) (A : Nat → Nat → Int) (y0 : Nat) (y1 : Nat) (y2 : Nat) (x3 : Int) (Q : (Nat → Nat → Int) → (Nat → Nat → Int) → Prop) : Prop := ∀ P62 : (Nat → Nat → Int) → (Nat → Nat → Int) → Int → Prop, (∀ (z : Nat → Nat → Int) (A : Nat → Nat → Int) (x3 : Int), cw_O L K 8 y0 ∧ hz_rI x3 ∧ hz_rI (z y0 4) ∧ ((z y0 4 ≤ x3 → wp_c8_handOver_118 L K z r A y0 y2 0  Q) ∧ (¬ (z y0 4 ≤ x3) → cw_A L K 0 (r y0 1) ∧ ((0 : Int) ≤ x3 ∧ x3 < (cw_n K (r y0 1) : Int)) ∧ hz_rI (A (r y0 1) (x3.toNat)) ∧ hz_rI ((z y0 6) - 1) ∧ (((z y0 6) - 1 ≤ A (r y0 1) (x3.toNat) → wp_c8_handOver_110 L K z r A y0 y1 y2 x3 P62 Q) ∧ (¬ ((z y0 6) - 1 ≤ A (r y0 1) (x3.toNat)) → cw_O L K 3 y1 ∧ ((0 : Int) ≤ x3 ∧ x3 < (cw_n K (r y0 1) : Int)) ∧ cw_G L K 4 (r y1 0) ∧ ((0 : Int) ≤ (A (r y0 1) (x3.toNat)) + 1 ∧ (A (r y0 1) (x3.toNat)) + 1 < (cw_n K (r y1 0) : Int)) ∧ wp_c8_cell L K z r A y0 x3 (z y0 5) (fun rv_22 => cw_O L K 0 (cw_g K (r y1 0) (((A (r y0 1) (x3.toNat)) + 1).toNat)) ∧ wp_c0_copy L K z r A (cw_g K (r y1 0) (((A (r y0 1) (x3.toNat)) + 1).toNat)) rv_22 (fun z_24 A_25 => wp_c8_handOver_110 L K z_24 r A_25 y0 y1 y2 x3 P62 Q)))))) → P62 z A x3) → P62 z A x3
noncomputable def wp_c8_handOver_2 (L : List Nat) (K : Nat → cw_K) (z : Nat → Nat → Int) (r : Nat → Nat → Nat) (A : Nat → Nat → Int) (y0 : Nat) (y1 : Nat) (y2 : Nat) (x3 : Int) (Q : (Nat → Nat → Int) → (Nat → Nat → Int) → Prop) : Prop := ∀ P2 : (Nat → Nat → Int) → (Nat → Nat → Int) → Int → Prop, (∀ (z : Nat → Nat → Int) (A : Nat → Nat → Int) (x3 : Int), hz_rI x3 ∧ ((20 ≤ x3 → cw_O L K 3 y1 ∧ cw_G L K 4 (r y1 0) ∧ ((0 : Int) ≤ 0 ∧ 0 < (cw_n K (r y1 0) : Int)) ∧ cw_O L K 8 y0 ∧ cw_O L K 0 (cw_g K (r y1 0) ((0 : Int).toNat)) ∧ wp_c0_copy L K z r A (cw_g K (r y1 0) ((0 : Int).toNat)) (r y0 9) (fun z_32 A_33 => cw_O L K 3 y2 ∧ cw_G L K 4 (r y2 0) ∧ ((0 : Int) ≤ 0 ∧ 0 < (cw_n K (r y2 0) : Int)) ∧ cw_O L K 0 (cw_g K (r y2 0) ((0 : Int).toNat)) ∧ wp_c0_copy L K z_32 r A_33 (cw_g K (r y2 0) ((0 : Int).toNat)) (r y0 9) (fun z_38 A_39 => wp_c8_handOver_62 L K z_38 r A_39 y0 y1 y2 0  Q))) ∧ (¬ (20 ≤ x3) → cw_O L K 3 y1 ∧ cw_G L K 4 (r y1 0) ∧ ((0 : Int) ≤ x3 ∧ x3 < (cw_n K (r y1 0) : Int)) ∧ cw_O L K 0 (cw_g K (r y1 0) (x3.toNat)) ∧ wp_c0_put L K z r A (cw_g K (r y1 0) (x3.toNat)) 0 (fun z_44 A_45 => cw_O L K 3 y2 ∧ cw_G L K 4 (r y2 0) ∧ ((0 : Int) ≤ x3 ∧ x3 < (cw_n K (r y2 0) : Int)) ∧ cw_O L K 0 (cw_g K (r y2 0) (x3.toNat)) ∧ wp_c0_put L K z_44 r A_45 (cw_g K (r y2 0) (x3.toNat)) 0 (fun z_50 A_51 => ∀ x3_53 : Int, x3_53 = x3 + 1 → P2 z_50 A_51 x3_53)))) → P2 z A x3) → P2 z A x3
noncomputable def wp_c8_handOver (L : List Nat) (K : Nat → cw_K) (z : Nat → Nat → Int) (r : Nat → Nat → Nat) (A : Nat → Nat → Int) (y0 : Nat) (y1 : Nat) (y2 : Nat) (Q : (Nat → Nat → Int) → (Nat → Nat → Int) → Prop) : Prop := wp_c8_handOver_2 L K z r A y0 y1 y2 0  Q
set_option maxHeartbeats 4000000 in
set_option maxRecDepth 100000 in
theorem k_c8_handOver (l : Launch) (D : va_G) (sz : Nat) (C : Nat → ClassId) (L : List Nat) (K : Nat → cw_K) (z : Nat → Nat → Int) (r : Nat → Nat → Nat) (A : Nat → Nat → Int) (y0 : Nat) (y1 : Nat) (y2 : Nat) (Q : (Nat → Nat → Int) → (Nat → Nat → Int) → Prop) (hw : wp_c8_handOver L K z r A y0 y1 y2 Q) : Met l yX8_handOver wsX8_handOver ({ frames := 2, cells := 0, slots := 0, locals := 51 } : Room) (va_Pc [.ref y0, .ref y1, .ref y2] (hm_P D (cw_w C L K z r A) (cw_t C) sz)) (va_Qv (S := Int × (Nat → Nat → Int) × (Nat → Nat → Nat) × (Nat → Nat → Int)) (fun u => Q u.2.1 u.2.2.2) (fun u t => hm_B D (va_A (cw_w C L K z r A) sz) (cw_w C L K u.2.1 r u.2.2.2) (cw_t C) t) (va_A (cw_w C L K z r A) sz)) 0 0 (va_A (cw_w C L K z r A) sz) := by
  refine Met.ofW (cc := cX8_handOver) (maxL := 5) (ret := none) (by decide) rfl ?_
  intro p e s m args below meth c s₁ B hml hv
  obtain ⟨rfl, hsz, hP, hK, hD0, hE⟩ := hv
  have hx := B.exec
  have hb := B.bytes
  have hr := B.returns
  have hts := atoms_spec (ws := wsX8_handOver) B.pre
  have hown : s.vm.findClass RX8 = some m.cls := findClass_of_methodNamed B.named
  have hlocks := B.notSynchronized
  have hin3 : ∀ w ∈ u_ws RX3 TX3 2, w ∈ wsX8_handOver := fun w h => List.mem_cons_of_mem _ (List.mem_append_left _ (List.mem_append_left _ (List.mem_append_right _ (h))))
  have hin8 : ∀ w ∈ u_ws RX8 TX8 13, w ∈ wsX8_handOver := fun w h => List.mem_cons_of_mem _ (List.mem_append_left _ (List.mem_append_right _ (h)))
  subst hsz
  have hD := hD0.self (sz := s.heap.size)
  generalize hAe : va_A (cw_w C L K z r A) s.heap.size = Ad at hD ⊢
  have hA : ∀ q : Nat, s.heap.size ≤ q → Ad q := fun q h => by rw [← hAe]; exact Or.inr h
  have hS : va_S Ad s.heap s.heap [] := va_S.rf
  have hl := lv_entry ([.ref y0, .ref y1, .ref y2]) (n := 5) (Nat.le_of_ble_eq_true rfl)
  rw [lg_entry_eq]
  generalize (lg_sl ([.ref y0, .ref y1, .ref y2]) ++ List.replicate (5 - (lg_sl ([.ref y0, .ref y1, .ref y2])).length) Slot.unset).toArray = ls at hl ⊢
  have hl : lv_has ls 5 [(0, .ref y0), (1, .ref y1), (2, .ref y2)] := hl
  refine mw_Q (fun QQ hQQ => ?_)
  have hP0 := hP; have hD0 := hD; have hS0 := hS; have hl0 := hl; have hw0 := hw
  clear hP hD hS hl hw
  have L118 : ∀ (z : Nat → Nat → Int) (A : Nat → Nat → Int) (x3 : Int), wp_c8_handOver_118 L K z r A y0 y2 x3  Q → ∀ (H : Heap) (locs : List Loc) (ls : Array Slot), va_P D vwCl (cw_w C L K z r A) H → va_D Ad (cw_w C L K z r A) → va_S Ad s.heap H locs → lv_has ls 5 [(0, .ref y0), (2, .ref y2), (3, .int (hz_i x3))] → W p l e (headSpec wsX8_handOver ({ frames := 2, cells := 0, slots := 0, locals := 51 } : Room)).room s m (List.toArray [.ref y0, .ref y1, .ref y2]) below meth c H locs 0 0 QQ (F0 m 118 ls []) := by
    intro z A x3 hw
    obtain ⟨P118, hP118⟩ : ∃ P : (Nat → Nat → Int) → (Nat → Nat → Int) → Int → Prop, ∀ (z : Nat → Nat → Int) (A : Nat → Nat → Int) (x3 : Int), P z A x3 ↔ (∀ (H : Heap) (locs : List Loc) (ls : Array Slot), va_P D vwCl (cw_w C L K z r A) H → va_D Ad (cw_w C L K z r A) → va_S Ad s.heap H locs → lv_has ls 5 [(0, .ref y0), (2, .ref y2), (3, .int (hz_i x3))] → W p l e (headSpec wsX8_handOver ({ frames := 2, cells := 0, slots := 0, locals := 51 } : Room)).room s m (List.toArray [.ref y0, .ref y1, .ref y2]) below meth c H locs 0 0 QQ (F0 m 118 ls [])) := ⟨fun (z : Nat → Nat → Int) (A : Nat → Nat → Int) (x3 : Int) => ∀ (H : Heap) (locs : List Loc) (ls : Array Slot), va_P D vwCl (cw_w C L K z r A) H → va_D Ad (cw_w C L K z r A) → va_S Ad s.heap H locs → lv_has ls 5 [(0, .ref y0), (2, .ref y2), (3, .int (hz_i x3))] → W p l e (headSpec wsX8_handOver ({ frames := 2, cells := 0, slots := 0, locals := 51 } : Room)).room s m (List.toArray [.ref y0, .ref y1, .ref y2]) below meth c H locs 0 0 QQ (F0 m 118 ls []), fun _ _ _ => Iff.rfl⟩
    refine (hP118 z A x3).mp (hw P118 ?_)
    intro z A x3 hw
    refine (hP118 z A x3).mpr ?_
    intro H locs ls hP hD hS hl
    have L176 : ∀ (z : Nat → Nat → Int) (A : Nat → Nat → Int) (x3 : Int), wp_c8_handOver_176 L K z r A y0 y2 x3 P118 Q → ∀ (H : Heap) (locs : List Loc) (ls : Array Slot), va_P D vwCl (cw_w C L K z r A) H → va_D Ad (cw_w C L K z r A) → va_S Ad s.heap H locs → lv_has ls 5 [(0, .ref y0), (2, .ref y2), (3, .int (hz_i x3))] → W p l e (headSpec wsX8_handOver ({ frames := 2, cells := 0, slots := 0, locals := 51 } : Room)).room s m (List.toArray [.ref y0, .ref y1, .ref y2]) below meth c H locs 0 0 QQ (F0 m 176 ls []) := by
      intro z A x3 hw H locs ls hP hD hS hl
      obtain ⟨x3_1, hx3_1⟩ : ∃ y : Int, y = x3 + 1 := ⟨_, rfl⟩
      have hw := hw x3_1 hx3_1
      refine lv_iinc (v := hz_i x3_1) (lv' := [(3, .int (hz_i x3_1)), (0, .ref y0), (2, .ref y2)]) hx hb dX8_handOver_176 hl (k := 2) rfl (by rw [hx3_1]; exact hz_i_add _ _) (by decide) rfl (fun ls hl => ?_)
      refine lv_goto (tgt := 118) hx hb dX8_handOver_179 (by decide) ?_
      exact (hP118 z A x3_1).mp hw H locs ls hP hD hS (lv_sub hl [1, 2, 0] rfl)
    refine lv_iload_n hx hb dX8_handOver_118 rfl (lv_at hl 2 rfl) ?_
    refine lv_aload_n hx hb dX8_handOver_119 rfl (lv_at hl 0 rfl) ?_
    obtain ⟨hO_2, hw⟩ := hw
    refine cw_get (ci := 8) (v := .int (hz_i (z y0 5))) hx hb hts hin8 hown hK hP hO_2.1 hO_2.2 rfl 5 (by decide) (hts (.fieldLink RX8 32 "HiddenMoves$Solver" "columns" "I") (List.mem_cons_of_mem _ (List.mem_append_left _ (List.mem_append_left _ (List.mem_append_left _ (List.mem_append_left _ (List.mem_of_getElem? (i := 5) rfl))))))) (fun _ h9 => h9) rfl dX8_handOver_120 ?_
    obtain ⟨h9a, hw⟩ := hw
    obtain ⟨h9b, hw⟩ := hw
    refine hz_icmp_ge (tgt := 182) hx hb dX8_handOver_123 (by decide) h9a h9b (fun c_3 => ?_) (fun c_3 => ?_)
    · have hw := hw.1 c_3
      subst hQQ
      subst hAe
      exact W.vret hx hb hr (fun t ht hW => ⟨⟨(0, z, r, A), rfl, hw, by rw [ht]; exact hP, va_K.moved hW.alike hK, hD⟩, hS.F ht⟩) hS.2.2 dX8_handOver_182
    · have hw := hw.2 c_3
      refine lv_aload_n hx hb dX8_handOver_126 rfl (lv_at hl 0 rfl) ?_
      refine cw_get (ci := 8) (v := .ref (r y0 2)) hx hb hts hin8 hown hK hP hO_2.1 hO_2.2 rfl 2 (by decide) (hts (.fieldLink RX8 21 "HiddenMoves$Solver" "columnUnknowns" "[I") (List.mem_cons_of_mem _ (List.mem_append_left _ (List.mem_append_left _ (List.mem_append_left _ (List.mem_append_left _ (List.mem_of_getElem? (i := 6) rfl))))))) (fun _ h9 => h9) rfl dX8_handOver_127 ?_
      refine lv_iload_n hx hb dX8_handOver_130 rfl (lv_at hl 2 rfl) ?_
      obtain ⟨hO_4, hw⟩ := hw
      obtain ⟨h9i, hw⟩ := hw
      refine cw_ild hx hb hK hP hO_4.1 hO_4.2.2 h9i hO_4.2.1 dX8_handOver_131 ?_
      refine lv_aload_n hx hb dX8_handOver_132 rfl (lv_at hl 0 rfl) ?_
      refine cw_get (ci := 8) (v := .int (hz_i (z y0 5))) hx hb hts hin8 hown hK hP hO_2.1 hO_2.2 rfl 5 (by decide) (hts (.fieldLink RX8 32 "HiddenMoves$Solver" "columns" "I") (List.mem_cons_of_mem _ (List.mem_append_left _ (List.mem_append_left _ (List.mem_append_left _ (List.mem_append_left _ (List.mem_of_getElem? (i := 5) rfl))))))) (fun _ h9 => h9) rfl dX8_handOver_133 ?_
      refine hz_isub hx hb dX8_handOver_136 ?_
      refine hz_topi (fun x4_5 hx4_5 => ?_)
      have hw := hw x4_5 hx4_5
      refine lv_istore (lv' := [(4, .int (hz_i x4_5)), (0, .ref y0), (2, .ref y2), (3, .int (hz_i x3))]) hx hb dX8_handOver_137 hl (by decide) rfl (fun ls hl => ?_)
      refine lv_iload hx hb dX8_handOver_139 (lv_at hl 0 rfl) ?_
      obtain ⟨h9a, hw⟩ := hw
      refine hz_if_lt (tgt := 176) hx hb dX8_handOver_141 (by decide) h9a (fun c_6 => ?_) (fun c_6 => ?_)
      · have hw := hw.1 c_6
        exact L176 z A x3 hw H locs ls hP hD hS (lv_sub hl [1, 2, 3] rfl)
      · have hw := hw.2 c_6
        refine lv_iload hx hb dX8_handOver_144 (lv_at hl 0 rfl) ?_
        refine lv_aload_n hx hb dX8_handOver_146 rfl (lv_at hl 1 rfl) ?_
        refine cw_get (ci := 8) (v := .int (hz_i (z y0 7))) hx hb hts hin8 hown hK hP hO_2.1 hO_2.2 rfl 7 (by decide) (hts (.fieldLink RX8 38 "HiddenMoves$Solver" "linesOfB" "I") (List.mem_cons_of_mem _ (List.mem_append_left _ (List.mem_append_left _ (List.mem_append_left _ (List.mem_append_left _ (List.mem_of_getElem? (i := 7) rfl))))))) (fun _ h9 => h9) rfl dX8_handOver_147 ?_
        refine lv_iconst (v := hz_i 1) hx hb dX8_handOver_150 (by decide +kernel) ?_
        refine hz_isub hx hb dX8_handOver_151 ?_
        obtain ⟨h9a, hw⟩ := hw
        obtain ⟨h9b, hw⟩ := hw
        refine hz_icmp_ge (tgt := 176) hx hb dX8_handOver_152 (by decide) h9a h9b (fun c_7 => ?_) (fun c_7 => ?_)
        · have hw := hw.1 c_7
          exact L176 z A x3 hw H locs ls hP hD hS (lv_sub hl [1, 2, 3] rfl)
        · have hw := hw.2 c_7
          refine lv_aload_n hx hb dX8_handOver_155 rfl (lv_at hl 2 rfl) ?_
          obtain ⟨hO_8, hw⟩ := hw
          refine cw_get (ci := 3) (v := .ref (r y2 0)) hx hb hts hin3 hown hK hP hO_8.1 hO_8.2 rfl 0 (by decide) (hts (.fieldLink RX8 98 "HiddenMoves$Mix" "parts" "[LHiddenMoves$Big;") (List.mem_cons_of_mem _ (List.mem_append_left _ (List.mem_append_left _ (List.mem_append_left _ (List.mem_append_left _ (List.mem_of_getElem? (i := 0) rfl))))))) (fun _ h9 => h9) rfl dX8_handOver_156 ?_
          refine lv_iload hx hb dX8_handOver_159 (lv_at hl 0 rfl) ?_
          refine lv_iconst (v := hz_i 1) hx hb dX8_handOver_161 (by decide +kernel) ?_
          refine hz_iadd hx hb dX8_handOver_162 ?_
          obtain ⟨hO_9, hw⟩ := hw
          obtain ⟨h9i, hw⟩ := hw
          refine cw_ald hx hb hK hP hO_9.1 hO_9.2.2 rfl h9i hO_9.2.1 dX8_handOver_163 ?_
          refine lv_aload_n hx hb dX8_handOver_164 rfl (lv_at hl 1 rfl) ?_
          refine lv_aload_n hx hb dX8_handOver_165 rfl (lv_at hl 1 rfl) ?_
          refine cw_get (ci := 8) (v := .int (hz_i (z y0 4))) hx hb hts hin8 hown hK hP hO_2.1 hO_2.2 rfl 4 (by decide) (hts (.fieldLink RX8 28 "HiddenMoves$Solver" "rows" "I") (List.mem_cons_of_mem _ (List.mem_append_left _ (List.mem_append_left _ (List.mem_append_left _ (List.mem_append_left _ (List.mem_of_getElem? (i := 2) rfl))))))) (fun _ h9 => h9) rfl dX8_handOver_166 ?_
          refine lv_iload_n hx hb dX8_handOver_169 rfl (lv_at hl 3 rfl) ?_
          have hFc := cw_free hD hS hA
          obtain ⟨q9, hq9⟩ := cw_at (C := C) (z := z) (r := r) (A := A) hO_2.1 hO_2.2
          refine va_callr (va_runV (As := [.int (hz_i (z y0 4)), .int (hz_i x3)]) (rest := [.ref (cw_g K (r y2 0) ((x4_5 + 1).toNat))]) ⟨hx, hb, hml, hown, hts⟩ (k_c8_cell l D _ C L K z r A y0 (z y0 4) x3 _ hw) (cwV 2 hts gX8_handOver_X8_cell rfl rfl rfl (by decide +kernel) ⟨Nat.le_of_ble_eq_true rfl, Nat.le_of_ble_eq_true rfl⟩) ⟨hm_blind, va_recv hK hP (ci := 8) (q0 := q9) rfl hq9, hm_pre hP hK hD hE⟩ rfl rfl hl.1 rfl (lv_room (Nat.le_of_ble_eq_true rfl)) dX8_handOver_170 ⟨Nat.le_of_ble_eq_true rfl, Nat.le_of_ble_eq_true rfl⟩) hS (fun q _ h => hFc q h) hFc (fun u ra t H1 locs ht hvm hw hB hz1 hk1 hS => ?_)
          obtain ⟨rv_10, _, _, _⟩ := u
          obtain ⟨hra, hP, hK1, hD1⟩ := hB
          have hra := hra.symm
          subst hra
          rw [ht] at hP
          have hD := hD1.weaken (fun k q _ h => hFc q.1 h)
          have hP : va_P D vwCl (cw_w C L K z r A) H1 := hP
          have hD : va_D Ad (cw_w C L K z r A) := hD
          generalize H1 = H at hP hS ⊢
          refine W.eq (g2 := F0 m 173 ls [.ref rv_10, .ref (cw_g K (r y2 0) ((x4_5 + 1).toNat))]) rfl ?_
          obtain ⟨hO_14, hw⟩ := hw
          have hFc := cw_free hD hS hA
          obtain ⟨q9, hq9⟩ := cw_at (C := C) (z := z) (r := r) (A := A) hO_14.1 hO_14.2
          refine va_callv (va_runV (As := [.ref rv_10]) (rest := []) ⟨hx, hb, hml, hown, hts⟩ (k_c0_copy l D _ C L K z r A (cw_g K (r y2 0) ((x4_5 + 1).toNat)) rv_10 _ hw) (cwV 1 hts gX8_handOver_X0_copy rfl rfl rfl (by decide +kernel) ⟨Nat.le_of_ble_eq_true rfl, Nat.le_of_ble_eq_true rfl⟩) ⟨hm_blind, va_recv hK hP (ci := 0) (q0 := q9) rfl hq9, hm_pre hP hK hD hE⟩ rfl rfl hl.1 rfl (lv_room (Nat.le_of_ble_eq_true rfl)) dX8_handOver_173 ⟨Nat.le_of_ble_eq_true rfl, Nat.le_of_ble_eq_true rfl⟩) hS (fun q _ h => hFc q h) hFc (fun u t H1 locs ht hvm hw hB hz1 hk1 hS => ?_)
          obtain ⟨rv_11, z_12, _, A_13⟩ := u
          obtain ⟨hP, hK1, hD1⟩ := hB
          rw [ht] at hP
          have hD := hD1.weaken (fun k q _ h => hFc q.1 h)
          have hP : va_P D vwCl (cw_w C L K z_12 r A_13) H1 := hP
          have hD : va_D Ad (cw_w C L K z_12 r A_13) := hD
          generalize H1 = H at hP hS ⊢
          refine W.eq (g2 := F0 m 176 ls []) rfl ?_
          exact L176 z_12 A_13 x3 hw H locs ls hP hD hS (lv_sub hl [1, 2, 3] rfl)
  have L62 : ∀ (z : Nat → Nat → Int) (A : Nat → Nat → Int) (x3 : Int), wp_c8_handOver_62 L K z r A y0 y1 y2 x3  Q → ∀ (H : Heap) (locs : List Loc) (ls : Array Slot), va_P D vwCl (cw_w C L K z r A) H → va_D Ad (cw_w C L K z r A) → va_S Ad s.heap H locs → lv_has ls 5 [(0, .ref y0), (1, .ref y1), (2, .ref y2), (3, .int (hz_i x3))] → W p l e (headSpec wsX8_handOver ({ frames := 2, cells := 0, slots := 0, locals := 51 } : Room)).room s m (List.toArray [.ref y0, .ref y1, .ref y2]) below meth c H locs 0 0 QQ (F0 m 62 ls []) := by
    intro z A x3 hw
    obtain ⟨P62, hP62⟩ : ∃ P : (Nat → Nat → Int) → (Nat → Nat → Int) → Int → Prop, ∀ (z : Nat → Nat → Int) (A : Nat → Nat → Int) (x3 : Int), P z A x3 ↔ (∀ (H : Heap) (locs : List Loc) (ls : Array Slot), va_P D vwCl (cw_w C L K z r A) H → va_D Ad (cw_w C L K z r A) → va_S Ad s.heap H locs → lv_has ls 5 [(0, .ref y0), (1, .ref y1), (2, .ref y2), (3, .int (hz_i x3))] → W p l e (headSpec wsX8_handOver ({ frames := 2, cells := 0, slots := 0, locals := 51 } : Room)).room s m (List.toArray [.ref y0, .ref y1, .ref y2]) below meth c H locs 0 0 QQ (F0 m 62 ls [])) := ⟨fun (z : Nat → Nat → Int) (A : Nat → Nat → Int) (x3 : Int) => ∀ (H : Heap) (locs : List Loc) (ls : Array Slot), va_P D vwCl (cw_w C L K z r A) H → va_D Ad (cw_w C L K z r A) → va_S Ad s.heap H locs → lv_has ls 5 [(0, .ref y0), (1, .ref y1), (2, .ref y2), (3, .int (hz_i x3))] → W p l e (headSpec wsX8_handOver ({ frames := 2, cells := 0, slots := 0, locals := 51 } : Room)).room s m (List.toArray [.ref y0, .ref y1, .ref y2]) below meth c H locs 0 0 QQ (F0 m 62 ls []), fun _ _ _ => Iff.rfl⟩
    refine (hP62 z A x3).mp (hw P62 ?_)
    intro z A x3 hw
    refine (hP62 z A x3).mpr ?_
    intro H locs ls hP hD hS hl
    have L110 : ∀ (z : Nat → Nat → Int) (A : Nat → Nat → Int) (x3 : Int), wp_c8_handOver_110 L K z r A y0 y1 y2 x3 P62 Q → ∀ (H : Heap) (locs : List Loc) (ls : Array Slot), va_P D vwCl (cw_w C L K z r A) H → va_D Ad (cw_w C L K z r A) → va_S Ad s.heap H locs → lv_has ls 5 [(0, .ref y0), (1, .ref y1), (2, .ref y2), (3, .int (hz_i x3))] → W p l e (headSpec wsX8_handOver ({ frames := 2, cells := 0, slots := 0, locals := 51 } : Room)).room s m (List.toArray [.ref y0, .ref y1, .ref y2]) below meth c H locs 0 0 QQ (F0 m 110 ls []) := by
      intro z A x3 hw H locs ls hP hD hS hl
      obtain ⟨x3_15, hx3_15⟩ : ∃ y : Int, y = x3 + 1 := ⟨_, rfl⟩
      have hw := hw x3_15 hx3_15
      refine lv_iinc (v := hz_i x3_15) (lv' := [(3, .int (hz_i x3_15)), (0, .ref y0), (1, .ref y1), (2, .ref y2)]) hx hb dX8_handOver_110 hl (k := 3) rfl (by rw [hx3_15]; exact hz_i_add _ _) (by decide) rfl (fun ls hl => ?_)
      refine lv_goto (tgt := 62) hx hb dX8_handOver_113 (by decide) ?_
      exact (hP62 z A x3_15).mp hw H locs ls hP hD hS (lv_sub hl [1, 2, 3, 0] rfl)
    refine lv_iload_n hx hb dX8_handOver_62 rfl (lv_at hl 3 rfl) ?_
    refine lv_aload_n hx hb dX8_handOver_63 rfl (lv_at hl 0 rfl) ?_
    obtain ⟨hO_16, hw⟩ := hw
    refine cw_get (ci := 8) (v := .int (hz_i (z y0 4))) hx hb hts hin8 hown hK hP hO_16.1 hO_16.2 rfl 4 (by decide) (hts (.fieldLink RX8 28 "HiddenMoves$Solver" "rows" "I") (List.mem_cons_of_mem _ (List.mem_append_left _ (List.mem_append_left _ (List.mem_append_left _ (List.mem_append_left _ (List.mem_of_getElem? (i := 2) rfl))))))) (fun _ h9 => h9) rfl dX8_handOver_64 ?_
    obtain ⟨h9a, hw⟩ := hw
    obtain ⟨h9b, hw⟩ := hw
    refine hz_icmp_ge (tgt := 116) hx hb dX8_handOver_67 (by decide) h9a h9b (fun c_17 => ?_) (fun c_17 => ?_)
    · have hw := hw.1 c_17
      refine lv_iconst (v := hz_i 0) hx hb dX8_handOver_116 (by decide +kernel) ?_
      refine lv_istore_n (lv' := [(3, .int (hz_i 0)), (0, .ref y0), (1, .ref y1), (2, .ref y2)]) hx hb dX8_handOver_117 rfl hl (by decide) rfl (fun ls hl => ?_)
      exact L118 z A 0 hw H locs ls hP hD hS (lv_sub hl [1, 3, 0] rfl)
    · have hw := hw.2 c_17
      refine lv_aload_n hx hb dX8_handOver_70 rfl (lv_at hl 0 rfl) ?_
      refine cw_get (ci := 8) (v := .ref (r y0 1)) hx hb hts hin8 hown hK hP hO_16.1 hO_16.2 rfl 1 (by decide) (hts (.fieldLink RX8 17 "HiddenMoves$Solver" "rowUnknowns" "[I") (List.mem_cons_of_mem _ (List.mem_append_left _ (List.mem_append_left _ (List.mem_append_left _ (List.mem_append_left _ (List.mem_of_getElem? (i := 3) rfl))))))) (fun _ h9 => h9) rfl dX8_handOver_71 ?_
      refine lv_iload_n hx hb dX8_handOver_74 rfl (lv_at hl 3 rfl) ?_
      obtain ⟨hO_18, hw⟩ := hw
      obtain ⟨h9i, hw⟩ := hw
      refine cw_ild hx hb hK hP hO_18.1 hO_18.2.2 h9i hO_18.2.1 dX8_handOver_75 ?_
      refine lv_aload_n hx hb dX8_handOver_76 rfl (lv_at hl 0 rfl) ?_
      refine cw_get (ci := 8) (v := .int (hz_i (z y0 6))) hx hb hts hin8 hown hK hP hO_16.1 hO_16.2 rfl 6 (by decide) (hts (.fieldLink RX8 35 "HiddenMoves$Solver" "linesOfA" "I") (List.mem_cons_of_mem _ (List.mem_append_left _ (List.mem_append_left _ (List.mem_append_left _ (List.mem_append_left _ (List.mem_of_getElem? (i := 4) rfl))))))) (fun _ h9 => h9) rfl dX8_handOver_77 ?_
      refine lv_iconst (v := hz_i 1) hx hb dX8_handOver_80 (by decide +kernel) ?_
      refine hz_isub hx hb dX8_handOver_81 ?_
      obtain ⟨h9a, hw⟩ := hw
      obtain ⟨h9b, hw⟩ := hw
      refine hz_icmp_ge (tgt := 110) hx hb dX8_handOver_82 (by decide) h9a h9b (fun c_19 => ?_) (fun c_19 => ?_)
      · have hw := hw.1 c_19
        exact L110 z A x3 hw H locs ls hP hD hS (lv_sub hl [0, 1, 2, 3] rfl)
      · have hw := hw.2 c_19
        refine lv_aload_n hx hb dX8_handOver_85 rfl (lv_at hl 1 rfl) ?_
        obtain ⟨hO_20, hw⟩ := hw
        refine cw_get (ci := 3) (v := .ref (r y1 0)) hx hb hts hin3 hown hK hP hO_20.1 hO_20.2 rfl 0 (by decide) (hts (.fieldLink RX8 98 "HiddenMoves$Mix" "parts" "[LHiddenMoves$Big;") (List.mem_cons_of_mem _ (List.mem_append_left _ (List.mem_append_left _ (List.mem_append_left _ (List.mem_append_left _ (List.mem_of_getElem? (i := 0) rfl))))))) (fun _ h9 => h9) rfl dX8_handOver_86 ?_
        refine lv_aload_n hx hb dX8_handOver_89 rfl (lv_at hl 0 rfl) ?_
        refine cw_get (ci := 8) (v := .ref (r y0 1)) hx hb hts hin8 hown hK hP hO_16.1 hO_16.2 rfl 1 (by decide) (hts (.fieldLink RX8 17 "HiddenMoves$Solver" "rowUnknowns" "[I") (List.mem_cons_of_mem _ (List.mem_append_left _ (List.mem_append_left _ (List.mem_append_left _ (List.mem_append_left _ (List.mem_of_getElem? (i := 3) rfl))))))) (fun _ h9 => h9) rfl dX8_handOver_90 ?_
        refine lv_iload_n hx hb dX8_handOver_93 rfl (lv_at hl 3 rfl) ?_
        obtain ⟨h9i, hw⟩ := hw
        refine cw_ild hx hb hK hP hO_18.1 hO_18.2.2 h9i hO_18.2.1 dX8_handOver_94 ?_
        refine lv_iconst (v := hz_i 1) hx hb dX8_handOver_95 (by decide +kernel) ?_
        refine hz_iadd hx hb dX8_handOver_96 ?_
        obtain ⟨hO_21, hw⟩ := hw
        obtain ⟨h9i, hw⟩ := hw
        refine cw_ald hx hb hK hP hO_21.1 hO_21.2.2 rfl h9i hO_21.2.1 dX8_handOver_97 ?_
        refine lv_aload_n hx hb dX8_handOver_98 rfl (lv_at hl 0 rfl) ?_
        refine lv_iload_n hx hb dX8_handOver_99 rfl (lv_at hl 3 rfl) ?_
        refine lv_aload_n hx hb dX8_handOver_100 rfl (lv_at hl 0 rfl) ?_
        refine cw_get (ci := 8) (v := .int (hz_i (z y0 5))) hx hb hts hin8 hown hK hP hO_16.1 hO_16.2 rfl 5 (by decide) (hts (.fieldLink RX8 32 "HiddenMoves$Solver" "columns" "I") (List.mem_cons_of_mem _ (List.mem_append_left _ (List.mem_append_left _ (List.mem_append_left _ (List.mem_append_left _ (List.mem_of_getElem? (i := 5) rfl))))))) (fun _ h9 => h9) rfl dX8_handOver_101 ?_
        have hFc := cw_free hD hS hA
        obtain ⟨q9, hq9⟩ := cw_at (C := C) (z := z) (r := r) (A := A) hO_16.1 hO_16.2
        refine va_callr (va_runV (As := [.int (hz_i x3), .int (hz_i (z y0 5))]) (rest := [.ref (cw_g K (r y1 0) (((A (r y0 1) (x3.toNat)) + 1).toNat))]) ⟨hx, hb, hml, hown, hts⟩ (k_c8_cell l D _ C L K z r A y0 x3 (z y0 5) _ hw) (cwV 2 hts gX8_handOver_X8_cell rfl rfl rfl (by decide +kernel) ⟨Nat.le_of_ble_eq_true rfl, Nat.le_of_ble_eq_true rfl⟩) ⟨hm_blind, va_recv hK hP (ci := 8) (q0 := q9) rfl hq9, hm_pre hP hK hD hE⟩ rfl rfl hl.1 rfl (lv_room (Nat.le_of_ble_eq_true rfl)) dX8_handOver_104 ⟨Nat.le_of_ble_eq_true rfl, Nat.le_of_ble_eq_true rfl⟩) hS (fun q _ h => hFc q h) hFc (fun u ra t H1 locs ht hvm hw hB hz1 hk1 hS => ?_)
        obtain ⟨rv_22, _, _, _⟩ := u
        obtain ⟨hra, hP, hK1, hD1⟩ := hB
        have hra := hra.symm
        subst hra
        rw [ht] at hP
        have hD := hD1.weaken (fun k q _ h => hFc q.1 h)
        have hP : va_P D vwCl (cw_w C L K z r A) H1 := hP
        have hD : va_D Ad (cw_w C L K z r A) := hD
        generalize H1 = H at hP hS ⊢
        refine W.eq (g2 := F0 m 107 ls [.ref rv_22, .ref (cw_g K (r y1 0) (((A (r y0 1) (x3.toNat)) + 1).toNat))]) rfl ?_
        obtain ⟨hO_26, hw⟩ := hw
        have hFc := cw_free hD hS hA
        obtain ⟨q9, hq9⟩ := cw_at (C := C) (z := z) (r := r) (A := A) hO_26.1 hO_26.2
        refine va_callv (va_runV (As := [.ref rv_22]) (rest := []) ⟨hx, hb, hml, hown, hts⟩ (k_c0_copy l D _ C L K z r A (cw_g K (r y1 0) (((A (r y0 1) (x3.toNat)) + 1).toNat)) rv_22 _ hw) (cwV 1 hts gX8_handOver_X0_copy rfl rfl rfl (by decide +kernel) ⟨Nat.le_of_ble_eq_true rfl, Nat.le_of_ble_eq_true rfl⟩) ⟨hm_blind, va_recv hK hP (ci := 0) (q0 := q9) rfl hq9, hm_pre hP hK hD hE⟩ rfl rfl hl.1 rfl (lv_room (Nat.le_of_ble_eq_true rfl)) dX8_handOver_107 ⟨Nat.le_of_ble_eq_true rfl, Nat.le_of_ble_eq_true rfl⟩) hS (fun q _ h => hFc q h) hFc (fun u t H1 locs ht hvm hw hB hz1 hk1 hS => ?_)
        obtain ⟨rv_23, z_24, _, A_25⟩ := u
        obtain ⟨hP, hK1, hD1⟩ := hB
        rw [ht] at hP
        have hD := hD1.weaken (fun k q _ h => hFc q.1 h)
        have hP : va_P D vwCl (cw_w C L K z_24 r A_25) H1 := hP
        have hD : va_D Ad (cw_w C L K z_24 r A_25) := hD
        generalize H1 = H at hP hS ⊢
        refine W.eq (g2 := F0 m 110 ls []) rfl ?_
        exact L110 z_24 A_25 x3 hw H locs ls hP hD hS (lv_sub hl [0, 1, 2, 3] rfl)
  have L2 : ∀ (z : Nat → Nat → Int) (A : Nat → Nat → Int) (x3 : Int), wp_c8_handOver_2 L K z r A y0 y1 y2 x3  Q → ∀ (H : Heap) (locs : List Loc) (ls : Array Slot), va_P D vwCl (cw_w C L K z r A) H → va_D Ad (cw_w C L K z r A) → va_S Ad s.heap H locs → lv_has ls 5 [(0, .ref y0), (1, .ref y1), (2, .ref y2), (3, .int (hz_i x3))] → W p l e (headSpec wsX8_handOver ({ frames := 2, cells := 0, slots := 0, locals := 51 } : Room)).room s m (List.toArray [.ref y0, .ref y1, .ref y2]) below meth c H locs 0 0 QQ (F0 m 2 ls []) := by
    intro z A x3 hw
    obtain ⟨P2, hP2⟩ : ∃ P : (Nat → Nat → Int) → (Nat → Nat → Int) → Int → Prop, ∀ (z : Nat → Nat → Int) (A : Nat → Nat → Int) (x3 : Int), P z A x3 ↔ (∀ (H : Heap) (locs : List Loc) (ls : Array Slot), va_P D vwCl (cw_w C L K z r A) H → va_D Ad (cw_w C L K z r A) → va_S Ad s.heap H locs → lv_has ls 5 [(0, .ref y0), (1, .ref y1), (2, .ref y2), (3, .int (hz_i x3))] → W p l e (headSpec wsX8_handOver ({ frames := 2, cells := 0, slots := 0, locals := 51 } : Room)).room s m (List.toArray [.ref y0, .ref y1, .ref y2]) below meth c H locs 0 0 QQ (F0 m 2 ls [])) := ⟨fun (z : Nat → Nat → Int) (A : Nat → Nat → Int) (x3 : Int) => ∀ (H : Heap) (locs : List Loc) (ls : Array Slot), va_P D vwCl (cw_w C L K z r A) H → va_D Ad (cw_w C L K z r A) → va_S Ad s.heap H locs → lv_has ls 5 [(0, .ref y0), (1, .ref y1), (2, .ref y2), (3, .int (hz_i x3))] → W p l e (headSpec wsX8_handOver ({ frames := 2, cells := 0, slots := 0, locals := 51 } : Room)).room s m (List.toArray [.ref y0, .ref y1, .ref y2]) below meth c H locs 0 0 QQ (F0 m 2 ls []), fun _ _ _ => Iff.rfl⟩
    refine (hP2 z A x3).mp (hw P2 ?_)
    intro z A x3 hw
    refine (hP2 z A x3).mpr ?_
    intro H locs ls hP hD hS hl
    refine lv_iload_n hx hb dX8_handOver_2 rfl (lv_at hl 3 rfl) ?_
    refine lv_bipush (v := hz_i 20) hx hb dX8_handOver_3 (by decide +kernel) ?_
    obtain ⟨h9a, hw⟩ := hw
    refine hz_icmp_ge (tgt := 34) hx hb dX8_handOver_5 (by decide) h9a ⟨by decide, by decide⟩ (fun c_27 => ?_) (fun c_27 => ?_)
    · have hw := hw.1 c_27
      refine lv_aload_n hx hb dX8_handOver_34 rfl (lv_at hl 1 rfl) ?_
      obtain ⟨hO_28, hw⟩ := hw
      refine cw_get (ci := 3) (v := .ref (r y1 0)) hx hb hts hin3 hown hK hP hO_28.1 hO_28.2 rfl 0 (by decide) (hts (.fieldLink RX8 98 "HiddenMoves$Mix" "parts" "[LHiddenMoves$Big;") (List.mem_cons_of_mem _ (List.mem_append_left _ (List.mem_append_left _ (List.mem_append_left _ (List.mem_append_left _ (List.mem_of_getElem? (i := 0) rfl))))))) (fun _ h9 => h9) rfl dX8_handOver_35 ?_
      refine lv_iconst (v := hz_i 0) hx hb dX8_handOver_38 (by decide +kernel) ?_
      obtain ⟨hO_29, hw⟩ := hw
      obtain ⟨h9i, hw⟩ := hw
      refine cw_ald hx hb hK hP hO_29.1 hO_29.2.2 rfl h9i hO_29.2.1 dX8_handOver_39 ?_
      refine lv_aload_n hx hb dX8_handOver_40 rfl (lv_at hl 0 rfl) ?_
      obtain ⟨hO_30, hw⟩ := hw
      refine cw_get (ci := 8) (v := .ref (r y0 9)) hx hb hts hin8 hown hK hP hO_30.1 hO_30.2 rfl 9 (by decide) (hts (.fieldLink RX8 48 "HiddenMoves$Solver" "scale" "LHiddenMoves$Big;") (List.mem_cons_of_mem _ (List.mem_append_left _ (List.mem_append_left _ (List.mem_append_left _ (List.mem_append_left _ (List.mem_of_getElem? (i := 1) rfl))))))) (fun _ h9 => h9) rfl dX8_handOver_41 ?_
      obtain ⟨hO_34, hw⟩ := hw
      have hFc := cw_free hD hS hA
      obtain ⟨q9, hq9⟩ := cw_at (C := C) (z := z) (r := r) (A := A) hO_34.1 hO_34.2
      refine va_callv (va_runV (As := [.ref (r y0 9)]) (rest := []) ⟨hx, hb, hml, hown, hts⟩ (k_c0_copy l D _ C L K z r A (cw_g K (r y1 0) ((0 : Int).toNat)) (r y0 9) _ hw) (cwV 1 hts gX8_handOver_X0_copy rfl rfl rfl (by decide +kernel) ⟨Nat.le_of_ble_eq_true rfl, Nat.le_of_ble_eq_true rfl⟩) ⟨hm_blind, va_recv hK hP (ci := 0) (q0 := q9) rfl hq9, hm_pre hP hK hD hE⟩ rfl rfl hl.1 rfl (lv_room (Nat.le_of_ble_eq_true rfl)) dX8_handOver_44 ⟨Nat.le_of_ble_eq_true rfl, Nat.le_of_ble_eq_true rfl⟩) hS (fun q _ h => hFc q h) hFc (fun u t H1 locs ht hvm hw hB hz1 hk1 hS => ?_)
      obtain ⟨rv_31, z_32, _, A_33⟩ := u
      obtain ⟨hP, hK1, hD1⟩ := hB
      rw [ht] at hP
      have hD := hD1.weaken (fun k q _ h => hFc q.1 h)
      have hP : va_P D vwCl (cw_w C L K z_32 r A_33) H1 := hP
      have hD : va_D Ad (cw_w C L K z_32 r A_33) := hD
      generalize H1 = H at hP hS ⊢
      refine W.eq (g2 := F0 m 47 ls []) rfl ?_
      refine lv_aload_n hx hb dX8_handOver_47 rfl (lv_at hl 2 rfl) ?_
      obtain ⟨hO_35, hw⟩ := hw
      refine cw_get (ci := 3) (v := .ref (r y2 0)) hx hb hts hin3 hown hK hP hO_35.1 hO_35.2 rfl 0 (by decide) (hts (.fieldLink RX8 98 "HiddenMoves$Mix" "parts" "[LHiddenMoves$Big;") (List.mem_cons_of_mem _ (List.mem_append_left _ (List.mem_append_left _ (List.mem_append_left _ (List.mem_append_left _ (List.mem_of_getElem? (i := 0) rfl))))))) (fun _ h9 => h9) rfl dX8_handOver_48 ?_
      refine lv_iconst (v := hz_i 0) hx hb dX8_handOver_51 (by decide +kernel) ?_
      obtain ⟨hO_36, hw⟩ := hw
      obtain ⟨h9i, hw⟩ := hw
      refine cw_ald hx hb hK hP hO_36.1 hO_36.2.2 rfl h9i hO_36.2.1 dX8_handOver_52 ?_
      refine lv_aload_n hx hb dX8_handOver_53 rfl (lv_at hl 0 rfl) ?_
      refine cw_get (ci := 8) (v := .ref (r y0 9)) hx hb hts hin8 hown hK hP hO_30.1 hO_30.2 rfl 9 (by decide) (hts (.fieldLink RX8 48 "HiddenMoves$Solver" "scale" "LHiddenMoves$Big;") (List.mem_cons_of_mem _ (List.mem_append_left _ (List.mem_append_left _ (List.mem_append_left _ (List.mem_append_left _ (List.mem_of_getElem? (i := 1) rfl))))))) (fun _ h9 => h9) rfl dX8_handOver_54 ?_
      obtain ⟨hO_40, hw⟩ := hw
      have hFc := cw_free hD hS hA
      obtain ⟨q9, hq9⟩ := cw_at (C := C) (z := z_32) (r := r) (A := A_33) hO_40.1 hO_40.2
      refine va_callv (va_runV (As := [.ref (r y0 9)]) (rest := []) ⟨hx, hb, hml, hown, hts⟩ (k_c0_copy l D _ C L K z_32 r A_33 (cw_g K (r y2 0) ((0 : Int).toNat)) (r y0 9) _ hw) (cwV 1 hts gX8_handOver_X0_copy rfl rfl rfl (by decide +kernel) ⟨Nat.le_of_ble_eq_true rfl, Nat.le_of_ble_eq_true rfl⟩) ⟨hm_blind, va_recv hK hP (ci := 0) (q0 := q9) rfl hq9, hm_pre hP hK hD hE⟩ rfl rfl hl.1 rfl (lv_room (Nat.le_of_ble_eq_true rfl)) dX8_handOver_57 ⟨Nat.le_of_ble_eq_true rfl, Nat.le_of_ble_eq_true rfl⟩) hS (fun q _ h => hFc q h) hFc (fun u t H1 locs ht hvm hw hB hz1 hk1 hS => ?_)
      obtain ⟨rv_37, z_38, _, A_39⟩ := u
      obtain ⟨hP, hK1, hD1⟩ := hB
      rw [ht] at hP
      have hD := hD1.weaken (fun k q _ h => hFc q.1 h)
      have hP : va_P D vwCl (cw_w C L K z_38 r A_39) H1 := hP
      have hD : va_D Ad (cw_w C L K z_38 r A_39) := hD
      generalize H1 = H at hP hS ⊢
      refine W.eq (g2 := F0 m 60 ls []) rfl ?_
      refine lv_iconst (v := hz_i 0) hx hb dX8_handOver_60 (by decide +kernel) ?_
      refine lv_istore_n (lv' := [(3, .int (hz_i 0)), (0, .ref y0), (1, .ref y1), (2, .ref y2)]) hx hb dX8_handOver_61 rfl hl (by decide) rfl (fun ls hl => ?_)
      exact L62 z_38 A_39 0 hw H locs ls hP hD hS (lv_sub hl [1, 2, 3, 0] rfl)
    · have hw := hw.2 c_27
      refine lv_aload_n hx hb dX8_handOver_8 rfl (lv_at hl 1 rfl) ?_
      obtain ⟨hO_41, hw⟩ := hw
      refine cw_get (ci := 3) (v := .ref (r y1 0)) hx hb hts hin3 hown hK hP hO_41.1 hO_41.2 rfl 0 (by decide) (hts (.fieldLink RX8 98 "HiddenMoves$Mix" "parts" "[LHiddenMoves$Big;") (List.mem_cons_of_mem _ (List.mem_append_left _ (List.mem_append_left _ (List.mem_append_left _ (List.mem_append_left _ (List.mem_of_getElem? (i := 0) rfl))))))) (fun _ h9 => h9) rfl dX8_handOver_9 ?_
      refine lv_iload_n hx hb dX8_handOver_12 rfl (lv_at hl 3 rfl) ?_
      obtain ⟨hO_42, hw⟩ := hw
      obtain ⟨h9i, hw⟩ := hw
      refine cw_ald hx hb hK hP hO_42.1 hO_42.2.2 rfl h9i hO_42.2.1 dX8_handOver_13 ?_
      refine lv_lconst (v := hz_l 0) hx hb dX8_handOver_14 (by decide +kernel) ?_
      obtain ⟨hO_46, hw⟩ := hw
      have hFc := cw_free hD hS hA
      obtain ⟨q9, hq9⟩ := cw_at (C := C) (z := z) (r := r) (A := A) hO_46.1 hO_46.2
      refine va_callv (va_runV (As := [.long (hz_l 0)]) (rest := []) ⟨hx, hb, hml, hown, hts⟩ (k_c0_put l D _ C L K z r A (cw_g K (r y1 0) (x3.toNat)) 0 _ hw) (cwV 1 hts gX8_handOver_X0_put rfl rfl rfl (by decide +kernel) ⟨Nat.le_of_ble_eq_true rfl, Nat.le_of_ble_eq_true rfl⟩) ⟨hm_blind, va_recv hK hP (ci := 0) (q0 := q9) rfl hq9, hm_pre hP hK hD hE⟩ rfl rfl hl.1 rfl (lv_room (Nat.le_of_ble_eq_true rfl)) dX8_handOver_15 ⟨Nat.le_of_ble_eq_true rfl, Nat.le_of_ble_eq_true rfl⟩) hS (fun q _ h => hFc q h) hFc (fun u t H1 locs ht hvm hw hB hz1 hk1 hS => ?_)
      obtain ⟨rv_43, z_44, _, A_45⟩ := u
      obtain ⟨hP, hK1, hD1⟩ := hB
      rw [ht] at hP
      have hD := hD1.weaken (fun k q _ h => hFc q.1 h)
      have hP : va_P D vwCl (cw_w C L K z_44 r A_45) H1 := hP
      have hD : va_D Ad (cw_w C L K z_44 r A_45) := hD
      generalize H1 = H at hP hS ⊢
      refine W.eq (g2 := F0 m 18 ls []) rfl ?_
      refine lv_aload_n hx hb dX8_handOver_18 rfl (lv_at hl 2 rfl) ?_
      obtain ⟨hO_47, hw⟩ := hw
      refine cw_get (ci := 3) (v := .ref (r y2 0)) hx hb hts hin3 hown hK hP hO_47.1 hO_47.2 rfl 0 (by decide) (hts (.fieldLink RX8 98 "HiddenMoves$Mix" "parts" "[LHiddenMoves$Big;") (List.mem_cons_of_mem _ (List.mem_append_left _ (List.mem_append_left _ (List.mem_append_left _ (List.mem_append_left _ (List.mem_of_getElem? (i := 0) rfl))))))) (fun _ h9 => h9) rfl dX8_handOver_19 ?_
      refine lv_iload_n hx hb dX8_handOver_22 rfl (lv_at hl 3 rfl) ?_
      obtain ⟨hO_48, hw⟩ := hw
      obtain ⟨h9i, hw⟩ := hw
      refine cw_ald hx hb hK hP hO_48.1 hO_48.2.2 rfl h9i hO_48.2.1 dX8_handOver_23 ?_
      refine lv_lconst (v := hz_l 0) hx hb dX8_handOver_24 (by decide +kernel) ?_
      obtain ⟨hO_52, hw⟩ := hw
      have hFc := cw_free hD hS hA
      obtain ⟨q9, hq9⟩ := cw_at (C := C) (z := z_44) (r := r) (A := A_45) hO_52.1 hO_52.2
      refine va_callv (va_runV (As := [.long (hz_l 0)]) (rest := []) ⟨hx, hb, hml, hown, hts⟩ (k_c0_put l D _ C L K z_44 r A_45 (cw_g K (r y2 0) (x3.toNat)) 0 _ hw) (cwV 1 hts gX8_handOver_X0_put rfl rfl rfl (by decide +kernel) ⟨Nat.le_of_ble_eq_true rfl, Nat.le_of_ble_eq_true rfl⟩) ⟨hm_blind, va_recv hK hP (ci := 0) (q0 := q9) rfl hq9, hm_pre hP hK hD hE⟩ rfl rfl hl.1 rfl (lv_room (Nat.le_of_ble_eq_true rfl)) dX8_handOver_25 ⟨Nat.le_of_ble_eq_true rfl, Nat.le_of_ble_eq_true rfl⟩) hS (fun q _ h => hFc q h) hFc (fun u t H1 locs ht hvm hw hB hz1 hk1 hS => ?_)
      obtain ⟨rv_49, z_50, _, A_51⟩ := u
      obtain ⟨hP, hK1, hD1⟩ := hB
      rw [ht] at hP
      have hD := hD1.weaken (fun k q _ h => hFc q.1 h)
      have hP : va_P D vwCl (cw_w C L K z_50 r A_51) H1 := hP
      have hD : va_D Ad (cw_w C L K z_50 r A_51) := hD
      generalize H1 = H at hP hS ⊢
      refine W.eq (g2 := F0 m 28 ls []) rfl ?_
      obtain ⟨x3_53, hx3_53⟩ : ∃ y : Int, y = x3 + 1 := ⟨_, rfl⟩
      have hw := hw x3_53 hx3_53
      refine lv_iinc (v := hz_i x3_53) (lv' := [(3, .int (hz_i x3_53)), (0, .ref y0), (1, .ref y1), (2, .ref y2)]) hx hb dX8_handOver_28 hl (k := 3) rfl (by rw [hx3_53]; exact hz_i_add _ _) (by decide) rfl (fun ls hl => ?_)
      refine lv_goto (tgt := 2) hx hb dX8_handOver_31 (by decide) ?_
      exact (hP2 z_50 A_51 x3_53).mp hw H locs ls hP hD hS (lv_sub hl [1, 2, 3, 0] rfl)
  have hP := hP0; have hD := hD0; have hS := hS0; have hl := hl0; have hw := hw0
  obtain ⟨H, hH⟩ : ∃ H : Heap, H = s.heap := ⟨_, rfl⟩
  obtain ⟨locs, hlocs⟩ : ∃ L : List Loc, L = [] := ⟨_, rfl⟩
  rw [← hH] at hP
  have hS : va_S Ad s.heap H locs := by rw [hH, hlocs]; exact hS
  refine mw_HL hH hlocs ?_
  refine lv_iconst (v := hz_i 0) hx hb dX8_handOver_0 (by decide +kernel) ?_
  refine lv_istore_n (lv' := [(3, .int (hz_i 0)), (0, .ref y0), (1, .ref y1), (2, .ref y2)]) hx hb dX8_handOver_1 rfl hl (by decide) rfl (fun ls hl => ?_)
  exact L2 z A 0 hw H locs ls hP hD hS (lv_sub hl [1, 2, 3, 0] rfl)

-- 17.c11
noncomputable def wp_c8_top (L : List Nat) (K : Nat → cw_K) (z : Nat → Nat → Int) (r : Nat → Nat → Nat) (A : Nat → Nat → Int) (y0 : Nat) (Q : Nat → (Nat → Nat → Int) → (Nat → Nat → Int) → Prop) : Prop := cw_O L K 8 y0 ∧ cw_O L K 0 (r y0 11) ∧ wp_c0_put L K z r A (r y0 11) (z y0 8) (fun z_3 A_4 => cw_O L K 0 (r y0 10) ∧ wp_c0_putProduct L K z_3 r A_4 (r y0 10) (r y0 9) (r y0 11) (fun z_7 A_8 => wp_c8_cell L K z_7 r A_8 y0 (z_7 y0 4) (z_7 y0 5) (fun rv_10 => wp_c0_plus L K z_7 r A_8 (r y0 10) rv_10 (fun z_12 A_13 => Q (r y0 10) z_12 A_13))))
set_option maxHeartbeats 4000000 in
set_option maxRecDepth 100000 in
theorem k_c8_top (l : Launch) (D : va_G) (sz : Nat) (C : Nat → ClassId) (L : List Nat) (K : Nat → cw_K) (z : Nat → Nat → Int) (r : Nat → Nat → Nat) (A : Nat → Nat → Int) (y0 : Nat) (Q : Nat → (Nat → Nat → Int) → (Nat → Nat → Int) → Prop) (hw : wp_c8_top L K z r A y0 Q) : Met l yX8_top wsX8_top ({ frames := 3, cells := 0, slots := 0, locals := 73 } : Room) (va_Pc [.ref y0] (hm_P D (cw_w C L K z r A) (cw_t C) sz)) (va_Qr (S := Nat × (Nat → Nat → Int) × (Nat → Nat → Nat) × (Nat → Nat → Int)) (fun u => Q u.1 u.2.1 u.2.2.2) (fun u a t => a = u.1 ∧ hm_B D (va_A (cw_w C L K z r A) sz) (cw_w C L K u.2.1 r u.2.2.2) (cw_t C) t) (va_A (cw_w C L K z r A) sz)) 0 0 (va_A (cw_w C L K z r A) sz) := by
  refine Met.ofW (cc := cX8_top) (maxL := 1) (ret := (some (.object "HiddenMoves$Big"))) (by decide) rfl ?_
  intro p e s m args below meth c s₁ B hml hv
  obtain ⟨rfl, hsz, hP, hK, hD0, hE⟩ := hv
  have hx := B.exec
  have hb := B.bytes
  have hr := B.returns
  have hts := atoms_spec (ws := wsX8_top) B.pre
  have hown : s.vm.findClass RX8 = some m.cls := findClass_of_methodNamed B.named
  have hlocks := B.notSynchronized
  have hin8 : ∀ w ∈ u_ws RX8 TX8 13, w ∈ wsX8_top := fun w h => List.mem_cons_of_mem _ (List.mem_append_left _ (List.mem_append_right _ (h)))
  subst hsz
  have hD := hD0.self (sz := s.heap.size)
  generalize hAe : va_A (cw_w C L K z r A) s.heap.size = Ad at hD ⊢
  have hA : ∀ q : Nat, s.heap.size ≤ q → Ad q := fun q h => by rw [← hAe]; exact Or.inr h
  have hS : va_S Ad s.heap s.heap [] := va_S.rf
  have hl := lv_entry ([.ref y0]) (n := 1) (Nat.le_of_ble_eq_true rfl)
  rw [lg_entry_eq]
  generalize (lg_sl ([.ref y0]) ++ List.replicate (1 - (lg_sl ([.ref y0])).length) Slot.unset).toArray = ls at hl ⊢
  have hl : lv_has ls 1 [(0, .ref y0)] := hl
  refine mw_Q (fun QQ hQQ => ?_)
  have hP0 := hP; have hD0 := hD; have hS0 := hS; have hl0 := hl; have hw0 := hw
  clear hP hD hS hl hw
  have hP := hP0; have hD := hD0; have hS := hS0; have hl := hl0; have hw := hw0
  obtain ⟨H, hH⟩ : ∃ H : Heap, H = s.heap := ⟨_, rfl⟩
  obtain ⟨locs, hlocs⟩ : ∃ L : List Loc, L = [] := ⟨_, rfl⟩
  rw [← hH] at hP
  have hS : va_S Ad s.heap H locs := by rw [hH, hlocs]; exact hS
  refine mw_HL hH hlocs ?_
  refine lv_aload_n hx hb dX8_top_0 rfl (lv_at hl 0 rfl) ?_
  obtain ⟨hO_1, hw⟩ := hw
  refine cw_get (ci := 8) (v := .ref (r y0 11)) hx hb hts hin8 hown hK hP hO_1.1 hO_1.2 rfl 11 (by decide) (hts (.fieldLink RX8 55 "HiddenMoves$Solver" "right" "LHiddenMoves$Big;") (List.mem_cons_of_mem _ (List.mem_append_left _ (List.mem_append_left _ (List.mem_append_left _ (List.mem_of_getElem? (i := 0) rfl)))))) (fun _ h9 => h9) rfl dX8_top_1 ?_
  refine lv_aload_n hx hb dX8_top_4 rfl (lv_at hl 0 rfl) ?_
  refine cw_get (ci := 8) (v := .long (hz_l (z y0 8))) hx hb hts hin8 hown hK hP hO_1.1 hO_1.2 rfl 8 (by decide) (hts (.fieldLink RX8 41 "HiddenMoves$Solver" "shift" "J") (List.mem_cons_of_mem _ (List.mem_append_left _ (List.mem_append_left _ (List.mem_append_left _ (List.mem_of_getElem? (i := 1) rfl)))))) (fun _ h9 => h9) rfl dX8_top_5 ?_
  obtain ⟨hO_5, hw⟩ := hw
  have hFc := cw_free hD hS hA
  obtain ⟨q9, hq9⟩ := cw_at (C := C) (z := z) (r := r) (A := A) hO_5.1 hO_5.2
  refine va_callv (va_runV (As := [.long (hz_l (z y0 8))]) (rest := []) ⟨hx, hb, hml, hown, hts⟩ (k_c0_put l D _ C L K z r A (r y0 11) (z y0 8) _ hw) (cwV 1 hts gX8_top_X0_put rfl rfl rfl (by decide +kernel) ⟨Nat.le_of_ble_eq_true rfl, Nat.le_of_ble_eq_true rfl⟩) ⟨hm_blind, va_recv hK hP (ci := 0) (q0 := q9) rfl hq9, hm_pre hP hK hD hE⟩ rfl rfl hl.1 rfl (lv_room (Nat.le_of_ble_eq_true rfl)) dX8_top_8 ⟨Nat.le_of_ble_eq_true rfl, Nat.le_of_ble_eq_true rfl⟩) hS (fun q _ h => hFc q h) hFc (fun u t H1 locs ht hvm hw hB hz1 hk1 hS => ?_)
  obtain ⟨rv_2, z_3, _, A_4⟩ := u
  obtain ⟨hP, hK1, hD1⟩ := hB
  rw [ht] at hP
  have hD := hD1.weaken (fun k q _ h => hFc q.1 h)
  have hP : va_P D vwCl (cw_w C L K z_3 r A_4) H1 := hP
  have hD : va_D Ad (cw_w C L K z_3 r A_4) := hD
  generalize H1 = H at hP hS ⊢
  refine W.eq (g2 := F0 m 11 ls []) rfl ?_
  refine lv_aload_n hx hb dX8_top_11 rfl (lv_at hl 0 rfl) ?_
  refine cw_get (ci := 8) (v := .ref (r y0 10)) hx hb hts hin8 hown hK hP hO_1.1 hO_1.2 rfl 10 (by decide) (hts (.fieldLink RX8 52 "HiddenMoves$Solver" "left" "LHiddenMoves$Big;") (List.mem_cons_of_mem _ (List.mem_append_left _ (List.mem_append_left _ (List.mem_append_left _ (List.mem_of_getElem? (i := 2) rfl)))))) (fun _ h9 => h9) rfl dX8_top_12 ?_
  refine lv_aload_n hx hb dX8_top_15 rfl (lv_at hl 0 rfl) ?_
  refine cw_get (ci := 8) (v := .ref (r y0 9)) hx hb hts hin8 hown hK hP hO_1.1 hO_1.2 rfl 9 (by decide) (hts (.fieldLink RX8 48 "HiddenMoves$Solver" "scale" "LHiddenMoves$Big;") (List.mem_cons_of_mem _ (List.mem_append_left _ (List.mem_append_left _ (List.mem_append_left _ (List.mem_of_getElem? (i := 3) rfl)))))) (fun _ h9 => h9) rfl dX8_top_16 ?_
  refine lv_aload_n hx hb dX8_top_19 rfl (lv_at hl 0 rfl) ?_
  refine cw_get (ci := 8) (v := .ref (r y0 11)) hx hb hts hin8 hown hK hP hO_1.1 hO_1.2 rfl 11 (by decide) (hts (.fieldLink RX8 55 "HiddenMoves$Solver" "right" "LHiddenMoves$Big;") (List.mem_cons_of_mem _ (List.mem_append_left _ (List.mem_append_left _ (List.mem_append_left _ (List.mem_of_getElem? (i := 0) rfl)))))) (fun _ h9 => h9) rfl dX8_top_20 ?_
  obtain ⟨hO_9, hw⟩ := hw
  have hFc := cw_free hD hS hA
  obtain ⟨q9, hq9⟩ := cw_at (C := C) (z := z_3) (r := r) (A := A_4) hO_9.1 hO_9.2
  refine va_callv (va_runV (As := [.ref (r y0 9), .ref (r y0 11)]) (rest := []) ⟨hx, hb, hml, hown, hts⟩ (k_c0_putProduct l D _ C L K z_3 r A_4 (r y0 10) (r y0 9) (r y0 11) _ hw) (cwV 2 hts gX8_top_X0_putProduct rfl rfl rfl (by decide +kernel) ⟨Nat.le_of_ble_eq_true rfl, Nat.le_of_ble_eq_true rfl⟩) ⟨hm_blind, va_recv hK hP (ci := 0) (q0 := q9) rfl hq9, hm_pre hP hK hD hE⟩ rfl rfl hl.1 rfl (lv_room (Nat.le_of_ble_eq_true rfl)) dX8_top_23 ⟨Nat.le_of_ble_eq_true rfl, Nat.le_of_ble_eq_true rfl⟩) hS (fun q _ h => hFc q h) hFc (fun u t H1 locs ht hvm hw hB hz1 hk1 hS => ?_)
  obtain ⟨rv_6, z_7, _, A_8⟩ := u
  obtain ⟨hP, hK1, hD1⟩ := hB
  rw [ht] at hP
  have hD := hD1.weaken (fun k q _ h => hFc q.1 h)
  have hP : va_P D vwCl (cw_w C L K z_7 r A_8) H1 := hP
  have hD : va_D Ad (cw_w C L K z_7 r A_8) := hD
  generalize H1 = H at hP hS ⊢
  refine W.eq (g2 := F0 m 26 ls []) rfl ?_
  refine lv_aload_n hx hb dX8_top_26 rfl (lv_at hl 0 rfl) ?_
  refine cw_get (ci := 8) (v := .ref (r y0 10)) hx hb hts hin8 hown hK hP hO_1.1 hO_1.2 rfl 10 (by decide) (hts (.fieldLink RX8 52 "HiddenMoves$Solver" "left" "LHiddenMoves$Big;") (List.mem_cons_of_mem _ (List.mem_append_left _ (List.mem_append_left _ (List.mem_append_left _ (List.mem_of_getElem? (i := 2) rfl)))))) (fun _ h9 => h9) rfl dX8_top_27 ?_
  refine lv_aload_n hx hb dX8_top_30 rfl (lv_at hl 0 rfl) ?_
  refine lv_aload_n hx hb dX8_top_31 rfl (lv_at hl 0 rfl) ?_
  refine cw_get (ci := 8) (v := .int (hz_i (z_7 y0 4))) hx hb hts hin8 hown hK hP hO_1.1 hO_1.2 rfl 4 (by decide) (hts (.fieldLink RX8 28 "HiddenMoves$Solver" "rows" "I") (List.mem_cons_of_mem _ (List.mem_append_left _ (List.mem_append_left _ (List.mem_append_left _ (List.mem_of_getElem? (i := 4) rfl)))))) (fun _ h9 => h9) rfl dX8_top_32 ?_
  refine lv_aload_n hx hb dX8_top_35 rfl (lv_at hl 0 rfl) ?_
  refine cw_get (ci := 8) (v := .int (hz_i (z_7 y0 5))) hx hb hts hin8 hown hK hP hO_1.1 hO_1.2 rfl 5 (by decide) (hts (.fieldLink RX8 32 "HiddenMoves$Solver" "columns" "I") (List.mem_cons_of_mem _ (List.mem_append_left _ (List.mem_append_left _ (List.mem_append_left _ (List.mem_of_getElem? (i := 5) rfl)))))) (fun _ h9 => h9) rfl dX8_top_36 ?_
  have hFc := cw_free hD hS hA
  obtain ⟨q9, hq9⟩ := cw_at (C := C) (z := z_7) (r := r) (A := A_8) hO_1.1 hO_1.2
  refine va_callr (va_runV (As := [.int (hz_i (z_7 y0 4)), .int (hz_i (z_7 y0 5))]) (rest := [.ref (r y0 10)]) ⟨hx, hb, hml, hown, hts⟩ (k_c8_cell l D _ C L K z_7 r A_8 y0 (z_7 y0 4) (z_7 y0 5) _ hw) (cwV 2 hts gX8_top_X8_cell rfl rfl rfl (by decide +kernel) ⟨Nat.le_of_ble_eq_true rfl, Nat.le_of_ble_eq_true rfl⟩) ⟨hm_blind, va_recv hK hP (ci := 8) (q0 := q9) rfl hq9, hm_pre hP hK hD hE⟩ rfl rfl hl.1 rfl (lv_room (Nat.le_of_ble_eq_true rfl)) dX8_top_39 ⟨Nat.le_of_ble_eq_true rfl, Nat.le_of_ble_eq_true rfl⟩) hS (fun q _ h => hFc q h) hFc (fun u ra t H1 locs ht hvm hw hB hz1 hk1 hS => ?_)
  obtain ⟨rv_10, _, _, _⟩ := u
  obtain ⟨hra, hP, hK1, hD1⟩ := hB
  have hra := hra.symm
  subst hra
  rw [ht] at hP
  have hD := hD1.weaken (fun k q _ h => hFc q.1 h)
  have hP : va_P D vwCl (cw_w C L K z_7 r A_8) H1 := hP
  have hD : va_D Ad (cw_w C L K z_7 r A_8) := hD
  generalize H1 = H at hP hS ⊢
  refine W.eq (g2 := F0 m 42 ls [.ref rv_10, .ref (r y0 10)]) rfl ?_
  have hFc := cw_free hD hS hA
  obtain ⟨q9, hq9⟩ := cw_at (C := C) (z := z_7) (r := r) (A := A_8) hO_9.1 hO_9.2
  refine va_callv (va_runV (As := [.ref rv_10]) (rest := []) ⟨hx, hb, hml, hown, hts⟩ (k_c0_plus l D _ C L K z_7 r A_8 (r y0 10) rv_10 _ hw) (cwV 1 hts gX8_top_X0_plus rfl rfl rfl (by decide +kernel) ⟨Nat.le_of_ble_eq_true rfl, Nat.le_of_ble_eq_true rfl⟩) ⟨hm_blind, va_recv hK hP (ci := 0) (q0 := q9) rfl hq9, hm_pre hP hK hD hE⟩ rfl rfl hl.1 rfl (lv_room (Nat.le_of_ble_eq_true rfl)) dX8_top_42 ⟨Nat.le_of_ble_eq_true rfl, Nat.le_of_ble_eq_true rfl⟩) hS (fun q _ h => hFc q h) hFc (fun u t H1 locs ht hvm hw hB hz1 hk1 hS => ?_)
  obtain ⟨rv_11, z_12, _, A_13⟩ := u
  obtain ⟨hP, hK1, hD1⟩ := hB
  rw [ht] at hP
  have hD := hD1.weaken (fun k q _ h => hFc q.1 h)
  have hP : va_P D vwCl (cw_w C L K z_12 r A_13) H1 := hP
  have hD : va_D Ad (cw_w C L K z_12 r A_13) := hD
  generalize H1 = H at hP hS ⊢
  refine W.eq (g2 := F0 m 45 ls []) rfl ?_
  refine lv_aload_n hx hb dX8_top_45 rfl (lv_at hl 0 rfl) ?_
  refine cw_get (ci := 8) (v := .ref (r y0 10)) hx hb hts hin8 hown hK hP hO_1.1 hO_1.2 rfl 10 (by decide) (hts (.fieldLink RX8 52 "HiddenMoves$Solver" "left" "LHiddenMoves$Big;") (List.mem_cons_of_mem _ (List.mem_append_left _ (List.mem_append_left _ (List.mem_append_left _ (List.mem_of_getElem? (i := 2) rfl)))))) (fun _ h9 => h9) rfl dX8_top_46 ?_
  subst hQQ
  subst hAe
  exact W.aret hx hb hr (Or.inl ⟨_, rfl⟩) (Or.inr ⟨_, rfl⟩) (fun t ht hW => ⟨⟨(r y0 10, z_12, r, A_13), (r y0 10), rfl, hw, rfl, by rw [ht]; exact hP, va_K.moved hW.alike hK, hD⟩, hS.F ht⟩) hS.2.2 dX8_top_49

noncomputable def wp_c7_hasMove_27 (L : List Nat) (K : Nat → cw_K) (z : Nat → Nat → Int) (r : Nat → Nat → Nat) (A : Nat → Nat → Int) (t0 : Int) (Q : Int → Prop) : Prop := (t0 = 0 ∨ t0 = 1) ∧ Q t0
noncomputable def wp_c7_hasMove_26 (L : List Nat) (K : Nat → cw_K) (z : Nat → Nat → Int) (r : Nat → Nat → Nat) (A : Nat → Nat → Int) (Q : Int → Prop) : Prop := wp_c7_hasMove_27 L K z r A 0  Q
noncomputable def wp_c7_hasMove (L : List Nat) (K : Nat → cw_K) (z : Nat → Nat → Int) (r : Nat → Nat → Nat) (A : Nat → Nat → Int) (y0 : Nat) (y1 : Int) (y2 : Int) (Q : Int → Prop) : Prop := cw_O L K 7 y0 ∧ wp_c7_hasSet L K z r A y0 y1 (fun rv_1 => hz_rI rv_1 ∧ ((rv_1 = 0 → wp_c7_hasMove_26 L K z r A  Q) ∧ (¬ (rv_1 = 0) → hz_rI y2 ∧ ((y2 < 0 → wp_c7_hasMove_26 L K z r A  Q) ∧ (¬ (y2 < 0) → cw_A L K 0 (r y0 2) ∧ ((0 : Int) ≤ y1 ∧ y1 < (cw_n K (r y0 2) : Int)) ∧ hz_rI y2 ∧ hz_rI (A (r y0 2) (y1.toNat)) ∧ ((A (r y0 2) (y1.toNat) ≤ y2 → wp_c7_hasMove_26 L K z r A  Q) ∧ (¬ (A (r y0 2) (y1.toNat) ≤ y2) → wp_c7_hasMove_27 L K z r A 1  Q)))))))
set_option maxHeartbeats 4000000 in
set_option maxRecDepth 100000 in
theorem k_c7_hasMove (l : Launch) (D : va_G) (sz : Nat) (C : Nat → ClassId) (L : List Nat) (K : Nat → cw_K) (z : Nat → Nat → Int) (r : Nat → Nat → Nat) (A : Nat → Nat → Int) (y0 : Nat) (y1 : Int) (y2 : Int) (Q : Int → Prop) (hw : wp_c7_hasMove L K z r A y0 y1 y2 Q) : Met l yX7_hasMove wsX7_hasMove ({ frames := 1, cells := 0, slots := 0, locals := 21 } : Room) (va_Pc [.ref y0, .int (hz_i y1), .int (hz_i y2)] (hm_P D (cw_w C L K z r A) (cw_t C) sz)) (va_Qi (S := Int × (Nat → Nat → Int) × (Nat → Nat → Nat) × (Nat → Nat → Int)) (fun r u => r = hz_i u.1 ∧ Q u.1) (fun u t => hm_B D (va_A (cw_w C L K z r A) sz) (cw_w C L K z r A) (cw_t C) t) (va_A (cw_w C L K z r A) sz)) 0 0 (va_A (cw_w C L K z r A) sz) := by
  refine Met.ofW (cc := cX7_hasMove) (maxL := 3) (ret := (some .boolean)) (by decide) rfl ?_
  intro p e s m args below meth c s₁ B hml hv
  obtain ⟨rfl, hsz, hP, hK, hD0, hE⟩ := hv
  have hx := B.exec
  have hb := B.bytes
  have hr := B.returns
  have hts := atoms_spec (ws := wsX7_hasMove) B.pre
  have hown : s.vm.findClass RX7 = some m.cls := findClass_of_methodNamed B.named
  have hlocks := B.notSynchronized
  have hin7 : ∀ w ∈ u_ws RX7 TX7 8, w ∈ wsX7_hasMove := fun w h => List.mem_cons_of_mem _ (List.mem_append_right _ (h))
  subst hsz
  have hD := hD0.self (sz := s.heap.size)
  generalize hAe : va_A (cw_w C L K z r A) s.heap.size = Ad at hD ⊢
  have hA : ∀ q : Nat, s.heap.size ≤ q → Ad q := fun q h => by rw [← hAe]; exact Or.inr h
  have hS : va_S Ad s.heap s.heap [] := va_S.rf
  have hl := lv_entry ([.ref y0, .int (hz_i y1), .int (hz_i y2)]) (n := 3) (Nat.le_of_ble_eq_true rfl)
  rw [lg_entry_eq]
  generalize (lg_sl ([.ref y0, .int (hz_i y1), .int (hz_i y2)]) ++ List.replicate (3 - (lg_sl ([.ref y0, .int (hz_i y1), .int (hz_i y2)])).length) Slot.unset).toArray = ls at hl ⊢
  have hl : lv_has ls 3 [(0, .ref y0), (1, .int (hz_i y1)), (2, .int (hz_i y2))] := hl
  refine mw_Q (fun QQ hQQ => ?_)
  have hP0 := hP; have hD0 := hD; have hS0 := hS; have hl0 := hl; have hw0 := hw
  clear hP hD hS hl hw
  have L27 : ∀ (t0 : Int), wp_c7_hasMove_27 L K z r A t0  Q → ∀ (H : Heap) (locs : List Loc) (ls : Array Slot), va_P D vwCl (cw_w C L K z r A) H → va_D Ad (cw_w C L K z r A) → va_S Ad s.heap H locs → lv_has ls 3 [] → W p l e (headSpec wsX7_hasMove ({ frames := 1, cells := 0, slots := 0, locals := 21 } : Room)).room s m (List.toArray [.ref y0, .int (hz_i y1), .int (hz_i y2)]) below meth c H locs 0 0 QQ (F0 m 27 ls [.int (hz_i t0)]) := by
    intro t0 hw H locs ls hP hD hS hl
    obtain ⟨h9z, hw⟩ := hw
    subst hQQ
    subst hAe
    exact W.zret (v := hz_i t0) hx hb hr (hz_tZ h9z) (fun t ht hW => ⟨⟨hz_i t0, (t0, z, r, A), rfl, ⟨rfl, hw⟩, by rw [ht]; exact hP, va_K.moved hW.alike hK, hD⟩, hS.F ht⟩) hS.2.2 dX7_hasMove_27
  have L26 : wp_c7_hasMove_26 L K z r A  Q → ∀ (H : Heap) (locs : List Loc) (ls : Array Slot), va_P D vwCl (cw_w C L K z r A) H → va_D Ad (cw_w C L K z r A) → va_S Ad s.heap H locs → lv_has ls 3 [] → W p l e (headSpec wsX7_hasMove ({ frames := 1, cells := 0, slots := 0, locals := 21 } : Room)).room s m (List.toArray [.ref y0, .int (hz_i y1), .int (hz_i y2)]) below meth c H locs 0 0 QQ (F0 m 26 ls []) := by
    intro  hw H locs ls hP hD hS hl
    refine lv_iconst (v := hz_i 0) hx hb dX7_hasMove_26 (by decide +kernel) ?_
    exact L27 0 hw H locs ls hP hD hS (lv_sub hl [] rfl)
  have hP := hP0; have hD := hD0; have hS := hS0; have hl := hl0; have hw := hw0
  obtain ⟨H, hH⟩ : ∃ H : Heap, H = s.heap := ⟨_, rfl⟩
  obtain ⟨locs, hlocs⟩ : ∃ L : List Loc, L = [] := ⟨_, rfl⟩
  rw [← hH] at hP
  have hS : va_S Ad s.heap H locs := by rw [hH, hlocs]; exact hS
  refine mw_HL hH hlocs ?_
  refine lv_aload_n hx hb dX7_hasMove_0 rfl (lv_at hl 0 rfl) ?_
  refine lv_iload_n hx hb dX7_hasMove_1 rfl (lv_at hl 1 rfl) ?_
  obtain ⟨hO_2, hw⟩ := hw
  have hFc := cw_free hD hS hA
  obtain ⟨q9, hq9⟩ := cw_at (C := C) (z := z) (r := r) (A := A) hO_2.1 hO_2.2
  refine va_calli (va_runV (As := [.int (hz_i y1)]) (rest := []) ⟨hx, hb, hml, hown, hts⟩ (k_c7_hasSet l D _ C L K z r A y0 y1 _ hw) (cwV 1 hts gX7_hasMove_X7_hasSet rfl rfl rfl (by decide +kernel) ⟨Nat.le_of_ble_eq_true rfl, Nat.le_of_ble_eq_true rfl⟩) ⟨hm_blind, va_recv hK hP (ci := 7) (q0 := q9) rfl hq9, hm_pre hP hK hD hE⟩ rfl rfl hl.1 rfl (lv_room (Nat.le_of_ble_eq_true rfl)) dX7_hasMove_2 ⟨Nat.le_of_ble_eq_true rfl, Nat.le_of_ble_eq_true rfl⟩) hS (fun q _ h => hFc q h) hFc (fun rv u t H1 locs ht hvm hw hB hz1 hk1 hS => ?_)
  obtain ⟨rv_1, _, _, _⟩ := u
  obtain ⟨hP, hK1, hD1⟩ := hB
  rw [ht] at hP
  obtain ⟨hrv, hw⟩ := hw
  subst hrv
  have hD := hD1.weaken (fun k q _ h => hFc q.1 h)
  have hP : va_P D vwCl (cw_w C L K z r A) H1 := hP
  have hD : va_D Ad (cw_w C L K z r A) := hD
  generalize H1 = H at hP hS ⊢
  refine W.eq (g2 := F0 m 5 ls [.int (hz_i rv_1)]) rfl ?_
  obtain ⟨h9a, hw⟩ := hw
  refine hz_if_eq (tgt := 26) hx hb dX7_hasMove_5 (by decide) h9a (fun c_3 => ?_) (fun c_3 => ?_)
  · have hw := hw.1 c_3
    exact L26  hw H locs ls hP hD hS (lv_sub hl [] rfl)
  · have hw := hw.2 c_3
    refine lv_iload_n hx hb dX7_hasMove_8 rfl (lv_at hl 2 rfl) ?_
    obtain ⟨h9a, hw⟩ := hw
    refine hz_if_lt (tgt := 26) hx hb dX7_hasMove_9 (by decide) h9a (fun c_4 => ?_) (fun c_4 => ?_)
    · have hw := hw.1 c_4
      exact L26  hw H locs ls hP hD hS (lv_sub hl [] rfl)
    · have hw := hw.2 c_4
      refine lv_iload_n hx hb dX7_hasMove_12 rfl (lv_at hl 2 rfl) ?_
      refine lv_aload_n hx hb dX7_hasMove_13 rfl (lv_at hl 0 rfl) ?_
      refine cw_get (ci := 7) (v := .ref (r y0 2)) hx hb hts hin7 hown hK hP hO_2.1 hO_2.2 rfl 2 (by decide) (hts (.fieldLink RX7 19 "HiddenMoves$Side" "moves" "[I") (List.mem_cons_of_mem _ (List.mem_append_left _ (List.mem_of_getElem? (i := 0) rfl)))) (fun _ h9 => h9) rfl dX7_hasMove_14 ?_
      refine lv_iload_n hx hb dX7_hasMove_17 rfl (lv_at hl 1 rfl) ?_
      obtain ⟨hO_5, hw⟩ := hw
      obtain ⟨h9i, hw⟩ := hw
      refine cw_ild hx hb hK hP hO_5.1 hO_5.2.2 h9i hO_5.2.1 dX7_hasMove_18 ?_
      obtain ⟨h9a, hw⟩ := hw
      obtain ⟨h9b, hw⟩ := hw
      refine hz_icmp_ge (tgt := 26) hx hb dX7_hasMove_19 (by decide) h9a h9b (fun c_6 => ?_) (fun c_6 => ?_)
      · have hw := hw.1 c_6
        exact L26  hw H locs ls hP hD hS (lv_sub hl [] rfl)
      · have hw := hw.2 c_6
        refine lv_iconst (v := hz_i 1) hx hb dX7_hasMove_22 (by decide +kernel) ?_
        refine lv_goto (tgt := 27) hx hb dX7_hasMove_23 (by decide) ?_
        exact L27 1 hw H locs ls hP hD hS (lv_sub hl [] rfl)

noncomputable def wp_c9_putChance (L : List Nat) (K : Nat → cw_K) (z : Nat → Nat → Int) (r : Nat → Nat → Nat) (A : Nat → Nat → Int) (y0 : Nat) (y1 : Int) (y2 : Int) (y3 : Int) (y4 : Int) (Q : (Nat → Nat → Int) → Prop) : Prop := hz_rI y3 ∧ hz_rI y4 ∧ wp_c11_gcd L K z r A y3 y4 (fun rv_1 => cw_O L K 9 y0 ∧ hz_rI y3 ∧ wp_c11_quotient L K z r A y3 rv_1 (fun rv_3 => ∀ x9_4 : Int, hz_rI x9_4 → x9_4 % 4294967296 = rv_3 % 4294967296 → cw_A L K 0 (r y0 0) ∧ ((0 : Int) ≤ (y1 * 4) + y2 ∧ (y1 * 4) + y2 < (cw_n K (r y0 0) : Int)) ∧ ∀ A_6 : Nat → Nat → Int, A_6 = hz_s A (r y0 0) ((y1 * 4) + y2) x9_4 → hz_rI y4 ∧ wp_c11_quotient L K z r A_6 y4 rv_1 (fun rv_7 => ∀ x9_8 : Int, hz_rI x9_8 → x9_8 % 4294967296 = rv_7 % 4294967296 → cw_A L K 0 (r y0 1) ∧ ((0 : Int) ≤ (y1 * 4) + y2 ∧ (y1 * 4) + y2 < (cw_n K (r y0 1) : Int)) ∧ ∀ A_10 : Nat → Nat → Int, A_10 = hz_s A_6 (r y0 1) ((y1 * 4) + y2) x9_8 → Q A_10)))
set_option maxHeartbeats 4000000 in
set_option maxRecDepth 100000 in
theorem k_c9_putChance (l : Launch) (D : va_G) (sz : Nat) (C : Nat → ClassId) (L : List Nat) (K : Nat → cw_K) (z : Nat → Nat → Int) (r : Nat → Nat → Nat) (A : Nat → Nat → Int) (y0 : Nat) (y1 : Int) (y2 : Int) (y3 : Int) (y4 : Int) (Q : (Nat → Nat → Int) → Prop) (hw : wp_c9_putChance L K z r A y0 y1 y2 y3 y4 Q) : Met l yX9_putChance wsX9_putChance ({ frames := 2, cells := 0, slots := 0, locals := 50 } : Room) (va_Pc [.ref y0, .int (hz_i y1), .int (hz_i y2), .int (hz_i y3), .int (hz_i y4)] (hm_P D (cw_w C L K z r A) (cw_t C) sz)) (va_Qv (S := Int × (Nat → Nat → Int) × (Nat → Nat → Nat) × (Nat → Nat → Int)) (fun u => Q u.2.2.2) (fun u t => hm_B D (va_A (cw_w C L K z r A) sz) (cw_w C L K z r u.2.2.2) (cw_t C) t) (va_A (cw_w C L K z r A) sz)) 0 0 (va_A (cw_w C L K z r A) sz) := by
  refine Met.ofW (cc := cX9_putChance) (maxL := 7) (ret := none) (by decide) rfl ?_
  intro p e s m args below meth c s₁ B hml hv
  obtain ⟨rfl, hsz, hP, hK, hD0, hE⟩ := hv
  have hx := B.exec
  have hb := B.bytes
  have hr := B.returns
  have hts := atoms_spec (ws := wsX9_putChance) B.pre
  have hown : s.vm.findClass RX9 = some m.cls := findClass_of_methodNamed B.named
  have hlocks := B.notSynchronized
  have hin9 : ∀ w ∈ u_ws RX9 TX9 3, w ∈ wsX9_putChance := fun w h => List.mem_cons_of_mem _ (List.mem_append_right _ (h))
  subst hsz
  have hD := hD0.self (sz := s.heap.size)
  generalize hAe : va_A (cw_w C L K z r A) s.heap.size = Ad at hD ⊢
  have hA : ∀ q : Nat, s.heap.size ≤ q → Ad q := fun q h => by rw [← hAe]; exact Or.inr h
  have hS : va_S Ad s.heap s.heap [] := va_S.rf
  have hl := lv_entry ([.ref y0, .int (hz_i y1), .int (hz_i y2), .int (hz_i y3), .int (hz_i y4)]) (n := 7) (Nat.le_of_ble_eq_true rfl)
  rw [lg_entry_eq]
  generalize (lg_sl ([.ref y0, .int (hz_i y1), .int (hz_i y2), .int (hz_i y3), .int (hz_i y4)]) ++ List.replicate (7 - (lg_sl ([.ref y0, .int (hz_i y1), .int (hz_i y2), .int (hz_i y3), .int (hz_i y4)])).length) Slot.unset).toArray = ls at hl ⊢
  have hl : lv_has ls 7 [(0, .ref y0), (1, .int (hz_i y1)), (2, .int (hz_i y2)), (3, .int (hz_i y3)), (4, .int (hz_i y4))] := hl
  refine mw_Q (fun QQ hQQ => ?_)
  have hP0 := hP; have hD0 := hD; have hS0 := hS; have hl0 := hl; have hw0 := hw
  clear hP hD hS hl hw
  have hP := hP0; have hD := hD0; have hS := hS0; have hl := hl0; have hw := hw0
  obtain ⟨H, hH⟩ : ∃ H : Heap, H = s.heap := ⟨_, rfl⟩
  obtain ⟨locs, hlocs⟩ : ∃ L : List Loc, L = [] := ⟨_, rfl⟩
  rw [← hH] at hP
  have hS : va_S Ad s.heap H locs := by rw [hH, hlocs]; exact hS
  refine mw_HL hH hlocs ?_
  refine lv_iload_n hx hb dX9_putChance_0 rfl (lv_at hl 3 rfl) ?_
  obtain ⟨h9a, hw⟩ := hw
  refine hz_wi2l hx hb dX9_putChance_1 h9a ?_
  refine lv_iload hx hb dX9_putChance_2 (lv_at hl 4 rfl) ?_
  obtain ⟨h9a, hw⟩ := hw
  refine hz_wi2l hx hb dX9_putChance_4 h9a ?_
  have hFc := cw_free hD hS hA
  refine va_calll (va_runSN (As := [.long (hz_l y3), .long (hz_l y4)]) (rest := []) ⟨hx, hb, hml, hown, hts⟩ (k_c11_gcd l D _ C L K z r A y3 y4 _ hw) ⟨va_cnB 2 hts gX9_putChance_X11_gcd_n21 rfl rfl rfl (hE.nest_RX9_21) (hts (.initialized RX11) (List.mem_cons_of_mem _ (List.mem_append_left _ (List.mem_of_getElem? (i := 3) rfl)))) (by decide +kernel) ⟨Nat.le_of_ble_eq_true rfl, Nat.le_of_ble_eq_true rfl⟩, hts (.static yX11_gcd) (List.mem_cons_of_mem _ (List.mem_append_left _ (List.mem_of_getElem? (i := 2) rfl))), trivial⟩ ⟨hm_blind, hm_pre hP hK hD hE⟩ rfl rfl hl.1 rfl (lv_room (Nat.le_of_ble_eq_true rfl)) dX9_putChance_5 ⟨Nat.le_of_ble_eq_true rfl, Nat.le_of_ble_eq_true rfl⟩) hS (fun q _ h => hFc q h) hFc (fun rv u t H1 locs ht hvm hw hB hz1 hk1 hS => ?_)
  obtain ⟨rv_1, _, _, _⟩ := u
  obtain ⟨hP, hK1, hD1⟩ := hB
  rw [ht] at hP
  obtain ⟨hrv, hw⟩ := hw
  subst hrv
  have hD := hD1.weaken (fun k q _ h => hFc q.1 h)
  have hP : va_P D vwCl (cw_w C L K z r A) H1 := hP
  have hD : va_D Ad (cw_w C L K z r A) := hD
  generalize H1 = H at hP hS ⊢
  refine W.eq (g2 := F0 m 8 ls [.long (hz_l rv_1)]) rfl ?_
  refine lv_lstore (lv' := [(5, .long (hz_l rv_1)), (0, .ref y0), (1, .int (hz_i y1)), (2, .int (hz_i y2)), (3, .int (hz_i y3)), (4, .int (hz_i y4))]) hx hb dX9_putChance_8 hl (by decide) rfl (fun ls hl => ?_)
  refine lv_aload_n hx hb dX9_putChance_10 rfl (lv_at hl 1 rfl) ?_
  obtain ⟨hO_2, hw⟩ := hw
  refine cw_get (ci := 9) (v := .ref (r y0 0)) hx hb hts hin9 hown hK hP hO_2.1 hO_2.2 rfl 0 (by decide) (hts (.fieldLink RX9 9 "HiddenMoves$Way" "tops" "[I") (List.mem_cons_of_mem _ (List.mem_append_left _ (List.mem_of_getElem? (i := 0) rfl)))) (fun _ h9 => h9) rfl dX9_putChance_11 ?_
  refine lv_iload_n hx hb dX9_putChance_14 rfl (lv_at hl 2 rfl) ?_
  refine lv_iconst (v := hz_i 4) hx hb dX9_putChance_15 (by decide +kernel) ?_
  refine hz_imul hx hb dX9_putChance_16 ?_
  refine lv_iload_n hx hb dX9_putChance_17 rfl (lv_at hl 3 rfl) ?_
  refine hz_iadd hx hb dX9_putChance_18 ?_
  refine lv_iload_n hx hb dX9_putChance_19 rfl (lv_at hl 4 rfl) ?_
  obtain ⟨h9a, hw⟩ := hw
  refine hz_wi2l hx hb dX9_putChance_20 h9a ?_
  refine lv_lload hx hb dX9_putChance_21 (lv_at hl 0 rfl) ?_
  have hFc := cw_free hD hS hA
  refine va_calll (va_runSN (As := [.long (hz_l y3), .long (hz_l rv_1)]) (rest := [.int (hz_i ((y1 * 4) + y2)), .ref (r y0 0)]) ⟨hx, hb, hml, hown, hts⟩ (k_c11_quotient l D _ C L K z r A y3 rv_1 _ hw) ⟨va_cnB 2 hts gX9_putChance_X11_quotient_n25 rfl rfl rfl (hE.nest_RX9_25) (hts (.initialized RX11) (List.mem_cons_of_mem _ (List.mem_append_left _ (List.mem_of_getElem? (i := 3) rfl)))) (by decide +kernel) ⟨Nat.le_of_ble_eq_true rfl, Nat.le_of_ble_eq_true rfl⟩, hts (.static yX11_quotient) (List.mem_cons_of_mem _ (List.mem_append_left _ (List.mem_of_getElem? (i := 9) rfl))), trivial⟩ ⟨hm_blind, hm_pre hP hK hD hE⟩ rfl rfl hl.1 rfl (lv_room (Nat.le_of_ble_eq_true rfl)) dX9_putChance_23 ⟨Nat.le_of_ble_eq_true rfl, Nat.le_of_ble_eq_true rfl⟩) hS (fun q _ h => hFc q h) hFc (fun rv u t H1 locs ht hvm hw hB hz1 hk1 hS => ?_)
  obtain ⟨rv_3, _, _, _⟩ := u
  obtain ⟨hP, hK1, hD1⟩ := hB
  rw [ht] at hP
  obtain ⟨hrv, hw⟩ := hw
  subst hrv
  have hD := hD1.weaken (fun k q _ h => hFc q.1 h)
  have hP : va_P D vwCl (cw_w C L K z r A) H1 := hP
  have hD : va_D Ad (cw_w C L K z r A) := hD
  generalize H1 = H at hP hS ⊢
  refine W.eq (g2 := F0 m 26 ls [.long (hz_l rv_3), .int (hz_i ((y1 * 4) + y2)), .ref (r y0 0)]) rfl ?_
  refine cw_l2i hx hb dX9_putChance_26 (fun x9_4 hx9_4a hx9_4b => ?_)
  have hw := hw x9_4 hx9_4a hx9_4b
  obtain ⟨hO_5, hw⟩ := hw
  obtain ⟨h9i, hw⟩ := hw
  refine cw_ist (v := x9_4) hx hb hK hP hD hS hO_5.1 hO_5.2.2 h9i hO_5.2.1 dX9_putChance_27 (fun H locs hP hD hS => ?_)
  obtain ⟨A_6, hA_6⟩ : ∃ y : Nat → Nat → Int, y = hz_s A (r y0 0) ((y1 * 4) + y2) x9_4 := ⟨_, rfl⟩
  rw [← hA_6] at hP hD
  have hw := hw A_6 hA_6
  refine lv_aload_n hx hb dX9_putChance_28 rfl (lv_at hl 1 rfl) ?_
  refine cw_get (ci := 9) (v := .ref (r y0 1)) hx hb hts hin9 hown hK hP hO_2.1 hO_2.2 rfl 1 (by decide) (hts (.fieldLink RX9 15 "HiddenMoves$Way" "bottoms" "[I") (List.mem_cons_of_mem _ (List.mem_append_left _ (List.mem_of_getElem? (i := 1) rfl)))) (fun _ h9 => h9) rfl dX9_putChance_29 ?_
  refine lv_iload_n hx hb dX9_putChance_32 rfl (lv_at hl 2 rfl) ?_
  refine lv_iconst (v := hz_i 4) hx hb dX9_putChance_33 (by decide +kernel) ?_
  refine hz_imul hx hb dX9_putChance_34 ?_
  refine lv_iload_n hx hb dX9_putChance_35 rfl (lv_at hl 3 rfl) ?_
  refine hz_iadd hx hb dX9_putChance_36 ?_
  refine lv_iload hx hb dX9_putChance_37 (lv_at hl 5 rfl) ?_
  obtain ⟨h9a, hw⟩ := hw
  refine hz_wi2l hx hb dX9_putChance_39 h9a ?_
  refine lv_lload hx hb dX9_putChance_40 (lv_at hl 0 rfl) ?_
  have hFc := cw_free hD hS hA
  refine va_calll (va_runSN (As := [.long (hz_l y4), .long (hz_l rv_1)]) (rest := [.int (hz_i ((y1 * 4) + y2)), .ref (r y0 1)]) ⟨hx, hb, hml, hown, hts⟩ (k_c11_quotient l D _ C L K z r A_6 y4 rv_1 _ hw) ⟨va_cnB 2 hts gX9_putChance_X11_quotient_n25 rfl rfl rfl (hE.nest_RX9_25) (hts (.initialized RX11) (List.mem_cons_of_mem _ (List.mem_append_left _ (List.mem_of_getElem? (i := 3) rfl)))) (by decide +kernel) ⟨Nat.le_of_ble_eq_true rfl, Nat.le_of_ble_eq_true rfl⟩, hts (.static yX11_quotient) (List.mem_cons_of_mem _ (List.mem_append_left _ (List.mem_of_getElem? (i := 9) rfl))), trivial⟩ ⟨hm_blind, hm_pre hP hK hD hE⟩ rfl rfl hl.1 rfl (lv_room (Nat.le_of_ble_eq_true rfl)) dX9_putChance_42 ⟨Nat.le_of_ble_eq_true rfl, Nat.le_of_ble_eq_true rfl⟩) hS (fun q _ h => hFc q h) hFc (fun rv u t H1 locs ht hvm hw hB hz1 hk1 hS => ?_)
  obtain ⟨rv_7, _, _, _⟩ := u
  obtain ⟨hP, hK1, hD1⟩ := hB
  rw [ht] at hP
  obtain ⟨hrv, hw⟩ := hw
  subst hrv
  have hD := hD1.weaken (fun k q _ h => hFc q.1 h)
  have hP : va_P D vwCl (cw_w C L K z r A_6) H1 := hP
  have hD : va_D Ad (cw_w C L K z r A_6) := hD
  generalize H1 = H at hP hS ⊢
  refine W.eq (g2 := F0 m 45 ls [.long (hz_l rv_7), .int (hz_i ((y1 * 4) + y2)), .ref (r y0 1)]) rfl ?_
  refine cw_l2i hx hb dX9_putChance_45 (fun x9_8 hx9_8a hx9_8b => ?_)
  have hw := hw x9_8 hx9_8a hx9_8b
  obtain ⟨hO_9, hw⟩ := hw
  obtain ⟨h9i, hw⟩ := hw
  refine cw_ist (v := x9_8) hx hb hK hP hD hS hO_9.1 hO_9.2.2 h9i hO_9.2.1 dX9_putChance_46 (fun H locs hP hD hS => ?_)
  obtain ⟨A_10, hA_10⟩ : ∃ y : Nat → Nat → Int, y = hz_s A_6 (r y0 1) ((y1 * 4) + y2) x9_8 := ⟨_, rfl⟩
  rw [← hA_10] at hP hD
  have hw := hw A_10 hA_10
  subst hQQ
  subst hAe
  exact W.vret hx hb hr (fun t ht hW => ⟨⟨(0, z, r, A_10), rfl, hw, by rw [ht]; exact hP, va_K.moved hW.alike hK, hD⟩, hS.F ht⟩) hS.2.2 dX9_putChance_47

noncomputable def wp_c11_type_29 (L : List Nat) (K : Nat → cw_K) (z : Nat → Nat → Int) (r : Nat → Nat → Nat) (A : Nat → Nat → Int) (t0 : Int) (Q : Int → (Nat → Nat → Int) → (Nat → Nat → Int) → Prop) : Prop := Q t0 z A
noncomputable def wp_c11_type (L : List Nat) (K : Nat → cw_K) (z : Nat → Nat → Int) (r : Nat → Nat → Nat) (A : Nat → Nat → Int) (y0 : Nat) (y1 : Int) (y3 : Int) (Q : Int → (Nat → Nat → Int) → (Nat → Nat → Int) → Prop) : Prop := cw_O L K 11 y0 ∧ cw_O L K 5 (r y0 0) ∧ cw_O L K 10 (r (r y0 0) 2) ∧ wp_c10_append L K z r A (r (r y0 0) 2) y1 y3 (fun rv_3 z_4 A_5 => hz_rI rv_3 ∧ ((rv_3 = 0 → wp_c11_type_29 L K z_4 r A_5 (-1)  Q) ∧ (¬ (rv_3 = 0) → wp_c11_type_29 L K z_4 r A_5 (z_4 (r (r y0 0) 2) 1)  Q)))
set_option maxHeartbeats 4000000 in
set_option maxRecDepth 100000 in
theorem k_c11_type (l : Launch) (D : va_G) (sz : Nat) (C : Nat → ClassId) (L : List Nat) (K : Nat → cw_K) (z : Nat → Nat → Int) (r : Nat → Nat → Nat) (A : Nat → Nat → Int) (y0 : Nat) (y1 : Int) (y3 : Int) (Q : Int → (Nat → Nat → Int) → (Nat → Nat → Int) → Prop) (hw : wp_c11_type L K z r A y0 y1 y3 Q) : Met l yX11_type wsX11_type ({ frames := 2, cells := 0, slots := 0, locals := 47 } : Room) (va_Pc [.ref y0, .long (hz_l y1), .int (hz_i y3)] (hm_P D (cw_w C L K z r A) (cw_t C) sz)) (va_Qi (S := Int × (Nat → Nat → Int) × (Nat → Nat → Nat) × (Nat → Nat → Int)) (fun r u => r = hz_i u.1 ∧ Q u.1 u.2.1 u.2.2.2) (fun u t => hm_B D (va_A (cw_w C L K z r A) sz) (cw_w C L K u.2.1 r u.2.2.2) (cw_t C) t) (va_A (cw_w C L K z r A) sz)) 0 0 (va_A (cw_w C L K z r A) sz) := by
  refine Met.ofW (cc := cX11_type) (maxL := 4) (ret := (some .int)) (by decide) rfl ?_
  intro p e s m args below meth c s₁ B hml hv
  obtain ⟨rfl, hsz, hP, hK, hD0, hE⟩ := hv
  have hx := B.exec
  have hb := B.bytes
  have hr := B.returns
  have hts := atoms_spec (ws := wsX11_type) B.pre
  have hown : s.vm.findClass RX11 = some m.cls := findClass_of_methodNamed B.named
  have hlocks := B.notSynchronized
  have hin5 : ∀ w ∈ u_ws RX5 TX5 13, w ∈ wsX11_type := fun w h => List.mem_cons_of_mem _ (List.mem_append_left _ (List.mem_append_right _ (h)))
  have hin10 : ∀ w ∈ u_ws RX10 TX10 6, w ∈ wsX11_type := fun w h => List.mem_cons_of_mem _ (List.mem_append_right _ (h))
  have hin11 : ∀ w ∈ u_ws RX11 TX11 16, w ∈ wsX11_type := fun w h => List.mem_cons_of_mem _ (List.mem_append_left _ (List.mem_append_left _ (List.mem_append_right _ (h))))
  subst hsz
  have hD := hD0.self (sz := s.heap.size)
  generalize hAe : va_A (cw_w C L K z r A) s.heap.size = Ad at hD ⊢
  have hA : ∀ q : Nat, s.heap.size ≤ q → Ad q := fun q h => by rw [← hAe]; exact Or.inr h
  have hS : va_S Ad s.heap s.heap [] := va_S.rf
  have hl := lv_entry ([.ref y0, .long (hz_l y1), .int (hz_i y3)]) (n := 4) (Nat.le_of_ble_eq_true rfl)
  rw [lg_entry_eq]
  generalize (lg_sl ([.ref y0, .long (hz_l y1), .int (hz_i y3)]) ++ List.replicate (4 - (lg_sl ([.ref y0, .long (hz_l y1), .int (hz_i y3)])).length) Slot.unset).toArray = ls at hl ⊢
  have hl : lv_has ls 4 [(0, .ref y0), (1, .long (hz_l y1)), (3, .int (hz_i y3))] := hl
  refine mw_Q (fun QQ hQQ => ?_)
  have hP0 := hP; have hD0 := hD; have hS0 := hS; have hl0 := hl; have hw0 := hw
  clear hP hD hS hl hw
  have L29 : ∀ (z : Nat → Nat → Int) (A : Nat → Nat → Int) (t0 : Int), wp_c11_type_29 L K z r A t0  Q → ∀ (H : Heap) (locs : List Loc) (ls : Array Slot), va_P D vwCl (cw_w C L K z r A) H → va_D Ad (cw_w C L K z r A) → va_S Ad s.heap H locs → lv_has ls 4 [] → W p l e (headSpec wsX11_type ({ frames := 2, cells := 0, slots := 0, locals := 47 } : Room)).room s m (List.toArray [.ref y0, .long (hz_l y1), .int (hz_i y3)]) below meth c H locs 0 0 QQ (F0 m 29 ls [.int (hz_i t0)]) := by
    intro z A t0 hw H locs ls hP hD hS hl
    subst hQQ
    subst hAe
    exact W.iret (v := hz_i t0) hx hb hr (fun t ht hW => ⟨⟨hz_i t0, (t0, z, r, A), rfl, ⟨rfl, hw⟩, by rw [ht]; exact hP, va_K.moved hW.alike hK, hD⟩, hS.F ht⟩) hS.2.2 dX11_type_29
  have hP := hP0; have hD := hD0; have hS := hS0; have hl := hl0; have hw := hw0
  obtain ⟨H, hH⟩ : ∃ H : Heap, H = s.heap := ⟨_, rfl⟩
  obtain ⟨locs, hlocs⟩ : ∃ L : List Loc, L = [] := ⟨_, rfl⟩
  rw [← hH] at hP
  have hS : va_S Ad s.heap H locs := by rw [hH, hlocs]; exact hS
  refine mw_HL hH hlocs ?_
  refine lv_aload_n hx hb dX11_type_0 rfl (lv_at hl 0 rfl) ?_
  obtain ⟨hO_1, hw⟩ := hw
  refine cw_get (ci := 11) (v := .ref (r y0 0)) hx hb hts hin11 hown hK hP hO_1.1 hO_1.2 rfl 0 (by decide) (hts (.fieldLink RX11 12 "HiddenMoves" "reader" "LHiddenMoves$Reader;") (List.mem_cons_of_mem _ (List.mem_append_left _ (List.mem_append_left _ (List.mem_append_left _ (List.mem_of_getElem? (i := 0) rfl)))))) (fun _ h9 => h9) rfl dX11_type_1 ?_
  obtain ⟨hO_2, hw⟩ := hw
  refine cw_get (ci := 5) (v := .ref (r (r y0 0) 2)) hx hb hts hin5 hown hK hP hO_2.1 hO_2.2 rfl 2 (by decide) (hts (.fieldLink RX11 96 "HiddenMoves$Reader" "words" "LHiddenMoves$Words;") (List.mem_cons_of_mem _ (List.mem_append_left _ (List.mem_append_left _ (List.mem_append_left _ (List.mem_of_getElem? (i := 1) rfl)))))) (fun _ h9 => h9) rfl dX11_type_4 ?_
  refine lv_lload_n hx hb dX11_type_7 rfl (lv_at hl 1 rfl) ?_
  refine lv_iload_n hx hb dX11_type_8 rfl (lv_at hl 2 rfl) ?_
  obtain ⟨hO_6, hw⟩ := hw
  have hFc := cw_free hD hS hA
  obtain ⟨q9, hq9⟩ := cw_at (C := C) (z := z) (r := r) (A := A) hO_6.1 hO_6.2
  refine va_calli (va_runV (As := [.long (hz_l y1), .int (hz_i y3)]) (rest := []) ⟨hx, hb, hml, hown, hts⟩ (k_c10_append l D _ C L K z r A (r (r y0 0) 2) y1 y3 _ hw) (cwV 2 hts gX11_type_X10_append rfl rfl rfl (by decide +kernel) ⟨Nat.le_of_ble_eq_true rfl, Nat.le_of_ble_eq_true rfl⟩) ⟨hm_blind, va_recv hK hP (ci := 10) (q0 := q9) rfl hq9, hm_pre hP hK hD hE⟩ rfl rfl hl.1 rfl (lv_room (Nat.le_of_ble_eq_true rfl)) dX11_type_9 ⟨Nat.le_of_ble_eq_true rfl, Nat.le_of_ble_eq_true rfl⟩) hS (fun q _ h => hFc q h) hFc (fun rv u t H1 locs ht hvm hw hB hz1 hk1 hS => ?_)
  obtain ⟨rv_3, z_4, _, A_5⟩ := u
  obtain ⟨hP, hK1, hD1⟩ := hB
  rw [ht] at hP
  obtain ⟨hrv, hw⟩ := hw
  subst hrv
  have hD := hD1.weaken (fun k q _ h => hFc q.1 h)
  have hP : va_P D vwCl (cw_w C L K z_4 r A_5) H1 := hP
  have hD : va_D Ad (cw_w C L K z_4 r A_5) := hD
  generalize H1 = H at hP hS ⊢
  refine W.eq (g2 := F0 m 12 ls [.int (hz_i rv_3)]) rfl ?_
  obtain ⟨h9a, hw⟩ := hw
  refine hz_if_eq (tgt := 28) hx hb dX11_type_12 (by decide) h9a (fun c_7 => ?_) (fun c_7 => ?_)
  · have hw := hw.1 c_7
    refine lv_iconst (v := hz_i (-1)) hx hb dX11_type_28 (by decide +kernel) ?_
    exact L29 z_4 A_5 (-1) hw H locs ls hP hD hS (lv_sub hl [] rfl)
  · have hw := hw.2 c_7
    refine lv_aload_n hx hb dX11_type_15 rfl (lv_at hl 0 rfl) ?_
    refine cw_get (ci := 11) (v := .ref (r y0 0)) hx hb hts hin11 hown hK hP hO_1.1 hO_1.2 rfl 0 (by decide) (hts (.fieldLink RX11 12 "HiddenMoves" "reader" "LHiddenMoves$Reader;") (List.mem_cons_of_mem _ (List.mem_append_left _ (List.mem_append_left _ (List.mem_append_left _ (List.mem_of_getElem? (i := 0) rfl)))))) (fun _ h9 => h9) rfl dX11_type_16 ?_
    refine cw_get (ci := 5) (v := .ref (r (r y0 0) 2)) hx hb hts hin5 hown hK hP hO_2.1 hO_2.2 rfl 2 (by decide) (hts (.fieldLink RX11 96 "HiddenMoves$Reader" "words" "LHiddenMoves$Words;") (List.mem_cons_of_mem _ (List.mem_append_left _ (List.mem_append_left _ (List.mem_append_left _ (List.mem_of_getElem? (i := 1) rfl)))))) (fun _ h9 => h9) rfl dX11_type_19 ?_
    refine cw_get (ci := 10) (v := .int (hz_i (z_4 (r (r y0 0) 2) 1))) hx hb hts hin10 hown hK hP hO_6.1 hO_6.2 rfl 1 (by decide) (hts (.fieldLink RX11 106 "HiddenMoves$Words" "length" "I") (List.mem_cons_of_mem _ (List.mem_append_left _ (List.mem_append_left _ (List.mem_append_left _ (List.mem_of_getElem? (i := 2) rfl)))))) (fun _ h9 => h9) rfl dX11_type_22 ?_
    refine lv_goto (tgt := 29) hx hb dX11_type_25 (by decide) ?_
    exact L29 z_4 A_5 (z_4 (r (r y0 0) 2) 1) hw H locs ls hP hD hS (lv_sub hl [] rfl)
