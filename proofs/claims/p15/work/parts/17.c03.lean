-- 17.c06
noncomputable def wp_c11_print (L : List Nat) (K : Nat → cw_K) (z : Nat → Nat → Int) (r : Nat → Nat → Nat) (A : Nat → Nat → Int) (y0 : Nat) (y1 : Int) (Q : Int → (Nat → Nat → Int) → (Nat → Nat → Int) → Prop) : Prop := cw_O L K 11 y0 ∧ wp_c11_isKnown L K z r A y0 y1 (fun rv_1 => hz_rI rv_1 ∧ ((¬ rv_1 = 0 → cw_G L K 5 (r y0 9) ∧ ((0 : Int) ≤ y1 ∧ y1 < (cw_n K (r y0 9) : Int)) ∧ cw_O L K 4 (cw_g K (r y0 9) (y1.toNat)) ∧ wp_c4_write L K z r A (cw_g K (r y0 9) (y1.toNat)) (r y0 1) (fun rv_5 z_6 A_7 => ∀ z_9 : Nat → Nat → Int, z_9 = cw_s z_6 y0 2 rv_5 → Q (z_9 y0 2) z_9 A_7)) ∧ (rv_1 = 0 → Q (-1) z A)))
set_option maxHeartbeats 4000000 in
set_option maxRecDepth 100000 in
theorem k_c11_print (l : Launch) (D : va_G) (sz : Nat) (C : Nat → ClassId) (L : List Nat) (K : Nat → cw_K) (z : Nat → Nat → Int) (r : Nat → Nat → Nat) (A : Nat → Nat → Int) (y0 : Nat) (y1 : Int) (Q : Int → (Nat → Nat → Int) → (Nat → Nat → Int) → Prop) (hw : wp_c11_print L K z r A y0 y1 Q) : Met l yX11_print wsX11_print ({ frames := 4, cells := 0, slots := 0, locals := 100 } : Room) (va_Pc [.ref y0, .int (hz_i y1)] (hm_P D (cw_w C L K z r A) (cw_t C) sz)) (va_Qi (S := Int × (Nat → Nat → Int) × (Nat → Nat → Nat) × (Nat → Nat → Int)) (fun r u => r = hz_i u.1 ∧ Q u.1 u.2.1 u.2.2.2) (fun u t => hm_B D (va_A (cw_w C L K z r A) sz) (cw_w C L K u.2.1 r u.2.2.2) (cw_t C) t) (va_A (cw_w C L K z r A) sz)) 0 0 (va_A (cw_w C L K z r A) sz) := by
  refine Met.ofW (cc := cX11_print) (maxL := 2) (ret := (some .int)) (by decide) rfl ?_
  intro p e s m args below meth c s₁ B hml hv
  obtain ⟨rfl, hsz, hP, hK, hD0, hE⟩ := hv
  have hx := B.exec
  have hb := B.bytes
  have hr := B.returns
  have hts := atoms_spec (ws := wsX11_print) B.pre
  have hown : s.vm.findClass RX11 = some m.cls := findClass_of_methodNamed B.named
  have hlocks := B.notSynchronized
  have hin11 : ∀ w ∈ u_ws RX11 TX11 16, w ∈ wsX11_print := fun w h => List.mem_cons_of_mem _ (List.mem_append_left _ (List.mem_append_left _ (List.mem_append_right _ (h))))
  subst hsz
  have hD := hD0.self (sz := s.heap.size)
  generalize hAe : va_A (cw_w C L K z r A) s.heap.size = Ad at hD ⊢
  have hA : ∀ q : Nat, s.heap.size ≤ q → Ad q := fun q h => by rw [← hAe]; exact Or.inr h
  have hS : va_S Ad s.heap s.heap [] := va_S.rf
  have hl := lv_entry ([.ref y0, .int (hz_i y1)]) (n := 2) (Nat.le_of_ble_eq_true rfl)
  rw [lg_entry_eq]
  generalize (lg_sl ([.ref y0, .int (hz_i y1)]) ++ List.replicate (2 - (lg_sl ([.ref y0, .int (hz_i y1)])).length) Slot.unset).toArray = ls at hl ⊢
  have hl : lv_has ls 2 [(0, .ref y0), (1, .int (hz_i y1))] := hl
  refine mw_Q (fun QQ hQQ => ?_)
  have hP0 := hP; have hD0 := hD; have hS0 := hS; have hl0 := hl; have hw0 := hw
  clear hP hD hS hl hw
  have hP := hP0; have hD := hD0; have hS := hS0; have hl := hl0; have hw := hw0
  obtain ⟨H, hH⟩ : ∃ H : Heap, H = s.heap := ⟨_, rfl⟩
  obtain ⟨locs, hlocs⟩ : ∃ L : List Loc, L = [] := ⟨_, rfl⟩
  rw [← hH] at hP
  have hS : va_S Ad s.heap H locs := by rw [hH, hlocs]; exact hS
  refine mw_HL hH hlocs ?_
  refine lv_aload_n hx hb dX11_print_0 rfl (lv_at hl 0 rfl) ?_
  refine lv_iload_n hx hb dX11_print_1 rfl (lv_at hl 1 rfl) ?_
  obtain ⟨hO_2, hw⟩ := hw
  have hFc := cw_free hD hS hA
  obtain ⟨q9, hq9⟩ := cw_at (C := C) (z := z) (r := r) (A := A) hO_2.1 hO_2.2
  refine va_calli (va_runV (As := [.int (hz_i y1)]) (rest := []) ⟨hx, hb, hml, hown, hts⟩ (k_c11_isKnown l D _ C L K z r A y0 y1 _ hw) (cwV 1 hts gX11_print_X11_isKnown rfl rfl rfl (by decide +kernel) ⟨Nat.le_of_ble_eq_true rfl, Nat.le_of_ble_eq_true rfl⟩) ⟨hm_blind, va_recv hK hP (ci := 11) (q0 := q9) rfl hq9, hm_pre hP hK hD hE⟩ rfl rfl hl.1 rfl (lv_room (Nat.le_of_ble_eq_true rfl)) dX11_print_2 ⟨Nat.le_of_ble_eq_true rfl, Nat.le_of_ble_eq_true rfl⟩) hS (fun q _ h => hFc q h) hFc (fun rv u t H1 locs ht hvm hw hB hz1 hk1 hS => ?_)
  obtain ⟨rv_1, _, _, _⟩ := u
  obtain ⟨hP, hK1, hD1⟩ := hB
  rw [ht] at hP
  obtain ⟨hrv, hw⟩ := hw
  subst hrv
  have hD := hD1.weaken (fun k q _ h => hFc q.1 h)
  have hP : va_P D vwCl (cw_w C L K z r A) H1 := hP
  have hD : va_D Ad (cw_w C L K z r A) := hD
  generalize H1 = H at hP hS ⊢
  refine W.eq (g2 := F0 m 5 ls [.int (hz_i rv_1)]) rfl ?_
  obtain ⟨h9a, hw⟩ := hw
  refine hz_if_ne (tgt := 10) hx hb dX11_print_5 (by decide) h9a (fun c_3 => ?_) (fun c_3 => ?_)
  · have hw := hw.1 c_3
    refine lv_aload_n hx hb dX11_print_10 rfl (lv_at hl 0 rfl) ?_
    refine lv_aload_n hx hb dX11_print_11 rfl (lv_at hl 0 rfl) ?_
    refine cw_get (ci := 11) (v := .ref (r y0 9)) hx hb hts hin11 hown hK hP hO_2.1 hO_2.2 rfl 9 (by decide) (hts (.fieldLink RX11 59 "HiddenMoves" "results" "[LHiddenMoves$Ratio;") (List.mem_cons_of_mem _ (List.mem_append_left _ (List.mem_append_left _ (List.mem_append_left _ (List.mem_append_left _ (List.mem_of_getElem? (i := 0) rfl))))))) (fun _ h9 => h9) rfl dX11_print_12 ?_
    refine lv_iload_n hx hb dX11_print_15 rfl (lv_at hl 1 rfl) ?_
    obtain ⟨hO_4, hw⟩ := hw
    obtain ⟨h9i, hw⟩ := hw
    refine cw_ald hx hb hK hP hO_4.1 hO_4.2.2 rfl h9i hO_4.2.1 dX11_print_16 ?_
    refine lv_aload_n hx hb dX11_print_17 rfl (lv_at hl 0 rfl) ?_
    refine cw_get (ci := 11) (v := .ref (r y0 1)) hx hb hts hin11 hown hK hP hO_2.1 hO_2.2 rfl 1 (by decide) (hts (.fieldLink RX11 16 "HiddenMoves" "printed" "[C") (List.mem_cons_of_mem _ (List.mem_append_left _ (List.mem_append_left _ (List.mem_append_left _ (List.mem_append_left _ (List.mem_of_getElem? (i := 1) rfl))))))) (fun _ h9 => h9) rfl dX11_print_18 ?_
    obtain ⟨hO_8, hw⟩ := hw
    have hFc := cw_free hD hS hA
    obtain ⟨q9, hq9⟩ := cw_at (C := C) (z := z) (r := r) (A := A) hO_8.1 hO_8.2
    refine va_calli (va_runV (As := [.ref (r y0 1)]) (rest := [.ref y0]) ⟨hx, hb, hml, hown, hts⟩ (k_c4_write l D _ C L K z r A (cw_g K (r y0 9) (y1.toNat)) (r y0 1) _ hw) (cwV 1 hts gX11_print_X4_write rfl rfl rfl (by decide +kernel) ⟨Nat.le_of_ble_eq_true rfl, Nat.le_of_ble_eq_true rfl⟩) ⟨hm_blind, va_recv hK hP (ci := 4) (q0 := q9) rfl hq9, hm_pre hP hK hD hE⟩ rfl rfl hl.1 rfl (lv_room (Nat.le_of_ble_eq_true rfl)) dX11_print_21 ⟨Nat.le_of_ble_eq_true rfl, Nat.le_of_ble_eq_true rfl⟩) hS (fun q _ h => hFc q h) hFc (fun rv u t H1 locs ht hvm hw hB hz1 hk1 hS => ?_)
    obtain ⟨rv_5, z_6, _, A_7⟩ := u
    obtain ⟨hP, hK1, hD1⟩ := hB
    rw [ht] at hP
    obtain ⟨hrv, hw⟩ := hw
    subst hrv
    have hD := hD1.weaken (fun k q _ h => hFc q.1 h)
    have hP : va_P D vwCl (cw_w C L K z_6 r A_7) H1 := hP
    have hD : va_D Ad (cw_w C L K z_6 r A_7) := hD
    generalize H1 = H at hP hS ⊢
    refine W.eq (g2 := F0 m 24 ls [.int (hz_i rv_5), .ref y0]) rfl ?_
    refine cw_putz (ci := 11) (ty := .int) (v := .int (hz_i rv_5)) (x := rv_5) hx hb hts hin11 tyX11 tyX11_ok nmX11 hown hK hP hD hS hO_2.1 hO_2.2 rfl 2 (by decide) (hts (.fieldLink RX11 20 "HiddenMoves" "printedLength" "I") (List.mem_cons_of_mem _ (List.mem_append_left _ (List.mem_append_left _ (List.mem_append_left _ (List.mem_append_left _ (List.mem_of_getElem? (i := 2) rfl))))))) (fun _ h9 => h9) rfl (by decide +kernel) rfl rfl (Nat.le_of_ble_eq_true rfl) (cw_z11_2 _ _ _) dX11_print_24 (fun H locs hP hD hS => ?_)
    obtain ⟨z_9, hz_9⟩ : ∃ y : Nat → Nat → Int, y = cw_s z_6 y0 2 rv_5 := ⟨_, rfl⟩
    rw [← hz_9] at hP hD
    have hw := hw z_9 hz_9
    refine lv_aload_n hx hb dX11_print_27 rfl (lv_at hl 0 rfl) ?_
    refine cw_get (ci := 11) (v := .int (hz_i (z_9 y0 2))) hx hb hts hin11 hown hK hP hO_2.1 hO_2.2 rfl 2 (by decide) (hts (.fieldLink RX11 20 "HiddenMoves" "printedLength" "I") (List.mem_cons_of_mem _ (List.mem_append_left _ (List.mem_append_left _ (List.mem_append_left _ (List.mem_append_left _ (List.mem_of_getElem? (i := 2) rfl))))))) (fun _ h9 => h9) rfl dX11_print_28 ?_
    subst hQQ
    subst hAe
    exact W.iret (v := hz_i (z_9 y0 2)) hx hb hr (fun t ht hW => ⟨⟨hz_i (z_9 y0 2), (z_9 y0 2, z_9, r, A_7), rfl, ⟨rfl, hw⟩, by rw [ht]; exact hP, va_K.moved hW.alike hK, hD⟩, hS.F ht⟩) hS.2.2 dX11_print_31
  · have hw := hw.2 c_3
    refine lv_iconst (v := hz_i (-1)) hx hb dX11_print_8 (by decide +kernel) ?_
    subst hQQ
    subst hAe
    exact W.iret (v := hz_i (-1)) hx hb hr (fun t ht hW => ⟨⟨hz_i (-1), ((-1), z, r, A), rfl, ⟨rfl, hw⟩, by rw [ht]; exact hP, va_K.moved hW.alike hK, hD⟩, hS.F ht⟩) hS.2.2 dX11_print_9

noncomputable def wp_c2_clear_53 (L : List Nat) (K : Nat → cw_K) (z : Nat → Nat → Int) (r : Nat → Nat → Nat) (A : Nat → Nat → Int) (y0 : Nat) (x1 : Int) (x2 : Int) (P45 : (Nat → Nat → Int) → Int → Prop) (Q : (Nat → Nat → Int) → (Nat → Nat → Int) → Prop) : Prop := ∀ P53 : (Nat → Nat → Int) → Int → Prop, (∀ (A : Nat → Nat → Int) (x2 : Int), hz_rI x2 ∧ ((20 ≤ x2 → ∀ x1_2 : Int, x1_2 = x1 + 1 → P45 A x1_2) ∧ (¬ (20 ≤ x2) → cw_O L K 2 y0 ∧ cw_G L K 10 (r y0 3) ∧ ((0 : Int) ≤ x1 ∧ x1 < (cw_n K (r y0 3) : Int)) ∧ cw_A L K 1 (cw_g K (r y0 3) (x1.toNat)) ∧ ((0 : Int) ≤ x2 ∧ x2 < (cw_n K (cw_g K (r y0 3) (x1.toNat)) : Int)) ∧ ∀ A_6 : Nat → Nat → Int, A_6 = hz_s A (cw_g K (r y0 3) (x1.toNat)) x2 0 → ∀ x2_7 : Int, x2_7 = x2 + 1 → P53 A_6 x2_7)) → P53 A x2) → P53 A x2
noncomputable def wp_c2_clear_45 (L : List Nat) (K : Nat → cw_K) (z : Nat → Nat → Int) (r : Nat → Nat → Nat) (A : Nat → Nat → Int) (y0 : Nat) (x1 : Int) (Q : (Nat → Nat → Int) → (Nat → Nat → Int) → Prop) : Prop := ∀ P45 : (Nat → Nat → Int) → Int → Prop, (∀ (A : Nat → Nat → Int) (x1 : Int), hz_rI x1 ∧ ((20 ≤ x1 → Q z A) ∧ (¬ (20 ≤ x1) → wp_c2_clear_53 L K z r A y0 x1 0 P45 Q)) → P45 A x1) → P45 A x1
noncomputable def wp_c2_clear_22 (L : List Nat) (K : Nat → cw_K) (z : Nat → Nat → Int) (r : Nat → Nat → Nat) (A : Nat → Nat → Int) (y0 : Nat) (x1 : Int) (Q : (Nat → Nat → Int) → (Nat → Nat → Int) → Prop) : Prop := ∀ P22 : (Nat → Nat → Int) → Int → Prop, (∀ (z : Nat → Nat → Int) (x1 : Int), hz_rI x1 ∧ ((2 ≤ x1 → wp_c2_clear_45 L K z r A y0 0  Q) ∧ (¬ (2 ≤ x1) → cw_O L K 2 y0 ∧ cw_G L K 7 (r y0 1) ∧ ((0 : Int) ≤ x1 ∧ x1 < (cw_n K (r y0 1) : Int)) ∧ cw_O L K 7 (cw_g K (r y0 1) (x1.toNat)) ∧ ∀ z_13 : Nat → Nat → Int, z_13 = cw_s z (cw_g K (r y0 1) (x1.toNat)) 0 0 → ∀ x1_14 : Int, x1_14 = x1 + 1 → P22 z_13 x1_14)) → P22 z x1) → P22 z x1
noncomputable def wp_c2_clear_2 (L : List Nat) (K : Nat → cw_K) (z : Nat → Nat → Int) (r : Nat → Nat → Nat) (A : Nat → Nat → Int) (y0 : Nat) (x1 : Int) (Q : (Nat → Nat → Int) → (Nat → Nat → Int) → Prop) : Prop := ∀ P2 : (Nat → Nat → Int) → Int → Prop, (∀ (A : Nat → Nat → Int) (x1 : Int), hz_rI x1 ∧ ((4 ≤ x1 → wp_c2_clear_22 L K z r A y0 0  Q) ∧ (¬ (4 ≤ x1) → cw_O L K 2 y0 ∧ cw_A L K 0 (r y0 0) ∧ ((0 : Int) ≤ x1 ∧ x1 < (cw_n K (r y0 0) : Int)) ∧ ∀ A_18 : Nat → Nat → Int, A_18 = hz_s A (r y0 0) x1 0 → ∀ x1_19 : Int, x1_19 = x1 + 1 → P2 A_18 x1_19)) → P2 A x1) → P2 A x1
noncomputable def wp_c2_clear (L : List Nat) (K : Nat → cw_K) (z : Nat → Nat → Int) (r : Nat → Nat → Nat) (A : Nat → Nat → Int) (y0 : Nat) (Q : (Nat → Nat → Int) → (Nat → Nat → Int) → Prop) : Prop := wp_c2_clear_2 L K z r A y0 0  Q
set_option maxHeartbeats 4000000 in
set_option maxRecDepth 100000 in
theorem k_c2_clear (l : Launch) (D : va_G) (sz : Nat) (C : Nat → ClassId) (L : List Nat) (K : Nat → cw_K) (z : Nat → Nat → Int) (r : Nat → Nat → Nat) (A : Nat → Nat → Int) (y0 : Nat) (Q : (Nat → Nat → Int) → (Nat → Nat → Int) → Prop) (hw : wp_c2_clear L K z r A y0 Q) : Met l yX2_clear wsX2_clear ({ frames := 0, cells := 0, slots := 0, locals := 0 } : Room) (va_Pc [.ref y0] (hm_P D (cw_w C L K z r A) (cw_t C) sz)) (va_Qv (S := Int × (Nat → Nat → Int) × (Nat → Nat → Nat) × (Nat → Nat → Int)) (fun u => Q u.2.1 u.2.2.2) (fun u t => hm_B D (va_A (cw_w C L K z r A) sz) (cw_w C L K u.2.1 r u.2.2.2) (cw_t C) t) (va_A (cw_w C L K z r A) sz)) 0 0 (va_A (cw_w C L K z r A) sz) := by
  refine Met.ofW (cc := cX2_clear) (maxL := 3) (ret := none) (by decide) rfl ?_
  intro p e s m args below meth c s₁ B hml hv
  obtain ⟨rfl, hsz, hP, hK, hD0, hE⟩ := hv
  have hx := B.exec
  have hb := B.bytes
  have hr := B.returns
  have hts := atoms_spec (ws := wsX2_clear) B.pre
  have hown : s.vm.findClass RX2 = some m.cls := findClass_of_methodNamed B.named
  have hlocks := B.notSynchronized
  have hin2 : ∀ w ∈ u_ws RX2 TX2 4, w ∈ wsX2_clear := fun w h => List.mem_cons_of_mem _ (List.mem_append_left _ (List.mem_append_right _ (h)))
  have hin7 : ∀ w ∈ u_ws RX7 TX7 8, w ∈ wsX2_clear := fun w h => List.mem_cons_of_mem _ (List.mem_append_right _ (h))
  subst hsz
  have hD := hD0.self (sz := s.heap.size)
  generalize hAe : va_A (cw_w C L K z r A) s.heap.size = Ad at hD ⊢
  have hA : ∀ q : Nat, s.heap.size ≤ q → Ad q := fun q h => by rw [← hAe]; exact Or.inr h
  have hS : va_S Ad s.heap s.heap [] := va_S.rf
  have hl := lv_entry ([.ref y0]) (n := 3) (Nat.le_of_ble_eq_true rfl)
  rw [lg_entry_eq]
  generalize (lg_sl ([.ref y0]) ++ List.replicate (3 - (lg_sl ([.ref y0])).length) Slot.unset).toArray = ls at hl ⊢
  have hl : lv_has ls 3 [(0, .ref y0)] := hl
  refine mw_Q (fun QQ hQQ => ?_)
  have hP0 := hP; have hD0 := hD; have hS0 := hS; have hl0 := hl; have hw0 := hw
  clear hP hD hS hl hw
  have L45 : ∀ (z : Nat → Nat → Int) (A : Nat → Nat → Int) (x1 : Int), wp_c2_clear_45 L K z r A y0 x1  Q → ∀ (H : Heap) (locs : List Loc) (ls : Array Slot), va_P D vwCl (cw_w C L K z r A) H → va_D Ad (cw_w C L K z r A) → va_S Ad s.heap H locs → lv_has ls 3 [(0, .ref y0), (1, .int (hz_i x1))] → W p l e (headSpec wsX2_clear ({ frames := 0, cells := 0, slots := 0, locals := 0 } : Room)).room s m (List.toArray [.ref y0]) below meth c H locs 0 0 QQ (F0 m 45 ls []) := by
    intro z A x1 hw
    obtain ⟨P45, hP45⟩ : ∃ P : (Nat → Nat → Int) → Int → Prop, ∀ (A : Nat → Nat → Int) (x1 : Int), P A x1 ↔ (∀ (H : Heap) (locs : List Loc) (ls : Array Slot), va_P D vwCl (cw_w C L K z r A) H → va_D Ad (cw_w C L K z r A) → va_S Ad s.heap H locs → lv_has ls 3 [(0, .ref y0), (1, .int (hz_i x1))] → W p l e (headSpec wsX2_clear ({ frames := 0, cells := 0, slots := 0, locals := 0 } : Room)).room s m (List.toArray [.ref y0]) below meth c H locs 0 0 QQ (F0 m 45 ls [])) := ⟨fun (A : Nat → Nat → Int) (x1 : Int) => ∀ (H : Heap) (locs : List Loc) (ls : Array Slot), va_P D vwCl (cw_w C L K z r A) H → va_D Ad (cw_w C L K z r A) → va_S Ad s.heap H locs → lv_has ls 3 [(0, .ref y0), (1, .int (hz_i x1))] → W p l e (headSpec wsX2_clear ({ frames := 0, cells := 0, slots := 0, locals := 0 } : Room)).room s m (List.toArray [.ref y0]) below meth c H locs 0 0 QQ (F0 m 45 ls []), fun _ _ => Iff.rfl⟩
    refine (hP45 A x1).mp (hw P45 ?_)
    intro A x1 hw
    refine (hP45 A x1).mpr ?_
    intro H locs ls hP hD hS hl
    have L53 : ∀ (A : Nat → Nat → Int) (x1 : Int) (x2 : Int), wp_c2_clear_53 L K z r A y0 x1 x2 P45 Q → ∀ (H : Heap) (locs : List Loc) (ls : Array Slot), va_P D vwCl (cw_w C L K z r A) H → va_D Ad (cw_w C L K z r A) → va_S Ad s.heap H locs → lv_has ls 3 [(0, .ref y0), (1, .int (hz_i x1)), (2, .int (hz_i x2))] → W p l e (headSpec wsX2_clear ({ frames := 0, cells := 0, slots := 0, locals := 0 } : Room)).room s m (List.toArray [.ref y0]) below meth c H locs 0 0 QQ (F0 m 53 ls []) := by
      intro A x1 x2 hw
      obtain ⟨P53, hP53⟩ : ∃ P : (Nat → Nat → Int) → Int → Prop, ∀ (A : Nat → Nat → Int) (x2 : Int), P A x2 ↔ (∀ (H : Heap) (locs : List Loc) (ls : Array Slot), va_P D vwCl (cw_w C L K z r A) H → va_D Ad (cw_w C L K z r A) → va_S Ad s.heap H locs → lv_has ls 3 [(0, .ref y0), (1, .int (hz_i x1)), (2, .int (hz_i x2))] → W p l e (headSpec wsX2_clear ({ frames := 0, cells := 0, slots := 0, locals := 0 } : Room)).room s m (List.toArray [.ref y0]) below meth c H locs 0 0 QQ (F0 m 53 ls [])) := ⟨fun (A : Nat → Nat → Int) (x2 : Int) => ∀ (H : Heap) (locs : List Loc) (ls : Array Slot), va_P D vwCl (cw_w C L K z r A) H → va_D Ad (cw_w C L K z r A) → va_S Ad s.heap H locs → lv_has ls 3 [(0, .ref y0), (1, .int (hz_i x1)), (2, .int (hz_i x2))] → W p l e (headSpec wsX2_clear ({ frames := 0, cells := 0, slots := 0, locals := 0 } : Room)).room s m (List.toArray [.ref y0]) below meth c H locs 0 0 QQ (F0 m 53 ls []), fun _ _ => Iff.rfl⟩
      refine (hP53 A x2).mp (hw P53 ?_)
      intro A x2 hw
      refine (hP53 A x2).mpr ?_
      intro H locs ls hP hD hS hl
      refine lv_iload_n hx hb dX2_clear_53 rfl (lv_at hl 2 rfl) ?_
      refine lv_bipush (v := hz_i 20) hx hb dX2_clear_54 (by decide +kernel) ?_
      obtain ⟨h9a, hw⟩ := hw
      refine hz_icmp_ge (tgt := 74) hx hb dX2_clear_56 (by decide) h9a ⟨by decide, by decide⟩ (fun c_1 => ?_) (fun c_1 => ?_)
      · have hw := hw.1 c_1
        obtain ⟨x1_2, hx1_2⟩ : ∃ y : Int, y = x1 + 1 := ⟨_, rfl⟩
        have hw := hw x1_2 hx1_2
        refine lv_iinc (v := hz_i x1_2) (lv' := [(1, .int (hz_i x1_2)), (0, .ref y0), (2, .int (hz_i x2))]) hx hb dX2_clear_74 hl (k := 1) rfl (by rw [hx1_2]; exact hz_i_add _ _) (by decide) rfl (fun ls hl => ?_)
        refine lv_goto (tgt := 45) hx hb dX2_clear_77 (by decide) ?_
        exact (hP45 A x1_2).mp hw H locs ls hP hD hS (lv_sub hl [1, 0] rfl)
      · have hw := hw.2 c_1
        refine lv_aload_n hx hb dX2_clear_59 rfl (lv_at hl 0 rfl) ?_
        obtain ⟨hO_3, hw⟩ := hw
        refine cw_get (ci := 2) (v := .ref (r y0 3)) hx hb hts hin2 hown hK hP hO_3.1 hO_3.2 rfl 3 (by decide) (hts (.fieldLink RX2 27 "HiddenMoves$Game" "weights" "[[J") (List.mem_cons_of_mem _ (List.mem_append_left _ (List.mem_append_left _ (List.mem_of_getElem? (i := 3) rfl))))) (fun _ h9 => h9) rfl dX2_clear_60 ?_
        refine lv_iload_n hx hb dX2_clear_63 rfl (lv_at hl 1 rfl) ?_
        obtain ⟨hO_4, hw⟩ := hw
        obtain ⟨h9i, hw⟩ := hw
        refine cw_aldJ hx hb hK hP hO_4.1 hO_4.2.2 h9i hO_4.2.1 dX2_clear_64 ?_
        refine lv_iload_n hx hb dX2_clear_65 rfl (lv_at hl 2 rfl) ?_
        refine lv_lconst (v := hz_l 0) hx hb dX2_clear_66 (by decide +kernel) ?_
        obtain ⟨hO_5, hw⟩ := hw
        obtain ⟨h9i, hw⟩ := hw
        refine cw_lst (v := 0) hx hb hK hP hD hS hO_5.1 hO_5.2.2 h9i hO_5.2.1 dX2_clear_67 (fun H locs hP hD hS => ?_)
        obtain ⟨A_6, hA_6⟩ : ∃ y : Nat → Nat → Int, y = hz_s A (cw_g K (r y0 3) (x1.toNat)) x2 0 := ⟨_, rfl⟩
        rw [← hA_6] at hP hD
        have hw := hw A_6 hA_6
        obtain ⟨x2_7, hx2_7⟩ : ∃ y : Int, y = x2 + 1 := ⟨_, rfl⟩
        have hw := hw x2_7 hx2_7
        refine lv_iinc (v := hz_i x2_7) (lv' := [(2, .int (hz_i x2_7)), (0, .ref y0), (1, .int (hz_i x1))]) hx hb dX2_clear_68 hl (k := 2) rfl (by rw [hx2_7]; exact hz_i_add _ _) (by decide) rfl (fun ls hl => ?_)
        refine lv_goto (tgt := 53) hx hb dX2_clear_71 (by decide) ?_
        exact (hP53 A_6 x2_7).mp hw H locs ls hP hD hS (lv_sub hl [1, 2, 0] rfl)
    refine lv_iload_n hx hb dX2_clear_45 rfl (lv_at hl 1 rfl) ?_
    refine lv_bipush (v := hz_i 20) hx hb dX2_clear_46 (by decide +kernel) ?_
    obtain ⟨h9a, hw⟩ := hw
    refine hz_icmp_ge (tgt := 80) hx hb dX2_clear_48 (by decide) h9a ⟨by decide, by decide⟩ (fun c_8 => ?_) (fun c_8 => ?_)
    · have hw := hw.1 c_8
      subst hQQ
      subst hAe
      exact W.vret hx hb hr (fun t ht hW => ⟨⟨(0, z, r, A), rfl, hw, by rw [ht]; exact hP, va_K.moved hW.alike hK, hD⟩, hS.F ht⟩) hS.2.2 dX2_clear_80
    · have hw := hw.2 c_8
      refine lv_iconst (v := hz_i 0) hx hb dX2_clear_51 (by decide +kernel) ?_
      refine lv_istore_n (lv' := [(2, .int (hz_i 0)), (0, .ref y0), (1, .int (hz_i x1))]) hx hb dX2_clear_52 rfl hl (by decide) rfl (fun ls hl => ?_)
      exact L53 A x1 0 hw H locs ls hP hD hS (lv_sub hl [1, 2, 0] rfl)
  have L22 : ∀ (z : Nat → Nat → Int) (A : Nat → Nat → Int) (x1 : Int), wp_c2_clear_22 L K z r A y0 x1  Q → ∀ (H : Heap) (locs : List Loc) (ls : Array Slot), va_P D vwCl (cw_w C L K z r A) H → va_D Ad (cw_w C L K z r A) → va_S Ad s.heap H locs → lv_has ls 3 [(0, .ref y0), (1, .int (hz_i x1))] → W p l e (headSpec wsX2_clear ({ frames := 0, cells := 0, slots := 0, locals := 0 } : Room)).room s m (List.toArray [.ref y0]) below meth c H locs 0 0 QQ (F0 m 22 ls []) := by
    intro z A x1 hw
    obtain ⟨P22, hP22⟩ : ∃ P : (Nat → Nat → Int) → Int → Prop, ∀ (z : Nat → Nat → Int) (x1 : Int), P z x1 ↔ (∀ (H : Heap) (locs : List Loc) (ls : Array Slot), va_P D vwCl (cw_w C L K z r A) H → va_D Ad (cw_w C L K z r A) → va_S Ad s.heap H locs → lv_has ls 3 [(0, .ref y0), (1, .int (hz_i x1))] → W p l e (headSpec wsX2_clear ({ frames := 0, cells := 0, slots := 0, locals := 0 } : Room)).room s m (List.toArray [.ref y0]) below meth c H locs 0 0 QQ (F0 m 22 ls [])) := ⟨fun (z : Nat → Nat → Int) (x1 : Int) => ∀ (H : Heap) (locs : List Loc) (ls : Array Slot), va_P D vwCl (cw_w C L K z r A) H → va_D Ad (cw_w C L K z r A) → va_S Ad s.heap H locs → lv_has ls 3 [(0, .ref y0), (1, .int (hz_i x1))] → W p l e (headSpec wsX2_clear ({ frames := 0, cells := 0, slots := 0, locals := 0 } : Room)).room s m (List.toArray [.ref y0]) below meth c H locs 0 0 QQ (F0 m 22 ls []), fun _ _ => Iff.rfl⟩
    refine (hP22 z x1).mp (hw P22 ?_)
    intro z x1 hw
    refine (hP22 z x1).mpr ?_
    intro H locs ls hP hD hS hl
    refine lv_iload_n hx hb dX2_clear_22 rfl (lv_at hl 1 rfl) ?_
    refine lv_iconst (v := hz_i 2) hx hb dX2_clear_23 (by decide +kernel) ?_
    obtain ⟨h9a, hw⟩ := hw
    refine hz_icmp_ge (tgt := 43) hx hb dX2_clear_24 (by decide) h9a ⟨by decide, by decide⟩ (fun c_9 => ?_) (fun c_9 => ?_)
    · have hw := hw.1 c_9
      refine lv_iconst (v := hz_i 0) hx hb dX2_clear_43 (by decide +kernel) ?_
      refine lv_istore_n (lv' := [(1, .int (hz_i 0)), (0, .ref y0)]) hx hb dX2_clear_44 rfl hl (by decide) rfl (fun ls hl => ?_)
      exact L45 z A 0 hw H locs ls hP hD hS (lv_sub hl [1, 0] rfl)
    · have hw := hw.2 c_9
      refine lv_aload_n hx hb dX2_clear_27 rfl (lv_at hl 0 rfl) ?_
      obtain ⟨hO_10, hw⟩ := hw
      refine cw_get (ci := 2) (v := .ref (r y0 1)) hx hb hts hin2 hown hK hP hO_10.1 hO_10.2 rfl 1 (by decide) (hts (.fieldLink RX2 17 "HiddenMoves$Game" "sides" "[LHiddenMoves$Side;") (List.mem_cons_of_mem _ (List.mem_append_left _ (List.mem_append_left _ (List.mem_of_getElem? (i := 1) rfl))))) (fun _ h9 => h9) rfl dX2_clear_28 ?_
      refine lv_iload_n hx hb dX2_clear_31 rfl (lv_at hl 1 rfl) ?_
      obtain ⟨hO_11, hw⟩ := hw
      obtain ⟨h9i, hw⟩ := hw
      refine cw_ald hx hb hK hP hO_11.1 hO_11.2.2 rfl h9i hO_11.2.1 dX2_clear_32 ?_
      refine lv_iconst (v := hz_i 0) hx hb dX2_clear_33 (by decide +kernel) ?_
      obtain ⟨hO_12, hw⟩ := hw
      refine cw_putz (ci := 7) (ty := .int) (v := .int (hz_i 0)) (x := 0) hx hb hts hin7 tyX7 tyX7_ok nmX7 hown hK hP hD hS hO_12.1 hO_12.2 rfl 0 (by decide) (hts (.fieldLink RX2 31 "HiddenMoves$Side" "sets" "I") (List.mem_cons_of_mem _ (List.mem_append_left _ (List.mem_append_left _ (List.mem_of_getElem? (i := 2) rfl))))) (fun _ h9 => h9) rfl (by decide +kernel) rfl rfl (Nat.le_of_ble_eq_true rfl) (cw_z7_0 _ _ _) dX2_clear_34 (fun H locs hP hD hS => ?_)
      obtain ⟨z_13, hz_13⟩ : ∃ y : Nat → Nat → Int, y = cw_s z (cw_g K (r y0 1) (x1.toNat)) 0 0 := ⟨_, rfl⟩
      rw [← hz_13] at hP hD
      have hw := hw z_13 hz_13
      obtain ⟨x1_14, hx1_14⟩ : ∃ y : Int, y = x1 + 1 := ⟨_, rfl⟩
      have hw := hw x1_14 hx1_14
      refine lv_iinc (v := hz_i x1_14) (lv' := [(1, .int (hz_i x1_14)), (0, .ref y0)]) hx hb dX2_clear_37 hl (k := 1) rfl (by rw [hx1_14]; exact hz_i_add _ _) (by decide) rfl (fun ls hl => ?_)
      refine lv_goto (tgt := 22) hx hb dX2_clear_40 (by decide) ?_
      exact (hP22 z_13 x1_14).mp hw H locs ls hP hD hS (lv_sub hl [1, 0] rfl)
  have L2 : ∀ (z : Nat → Nat → Int) (A : Nat → Nat → Int) (x1 : Int), wp_c2_clear_2 L K z r A y0 x1  Q → ∀ (H : Heap) (locs : List Loc) (ls : Array Slot), va_P D vwCl (cw_w C L K z r A) H → va_D Ad (cw_w C L K z r A) → va_S Ad s.heap H locs → lv_has ls 3 [(0, .ref y0), (1, .int (hz_i x1))] → W p l e (headSpec wsX2_clear ({ frames := 0, cells := 0, slots := 0, locals := 0 } : Room)).room s m (List.toArray [.ref y0]) below meth c H locs 0 0 QQ (F0 m 2 ls []) := by
    intro z A x1 hw
    obtain ⟨P2, hP2⟩ : ∃ P : (Nat → Nat → Int) → Int → Prop, ∀ (A : Nat → Nat → Int) (x1 : Int), P A x1 ↔ (∀ (H : Heap) (locs : List Loc) (ls : Array Slot), va_P D vwCl (cw_w C L K z r A) H → va_D Ad (cw_w C L K z r A) → va_S Ad s.heap H locs → lv_has ls 3 [(0, .ref y0), (1, .int (hz_i x1))] → W p l e (headSpec wsX2_clear ({ frames := 0, cells := 0, slots := 0, locals := 0 } : Room)).room s m (List.toArray [.ref y0]) below meth c H locs 0 0 QQ (F0 m 2 ls [])) := ⟨fun (A : Nat → Nat → Int) (x1 : Int) => ∀ (H : Heap) (locs : List Loc) (ls : Array Slot), va_P D vwCl (cw_w C L K z r A) H → va_D Ad (cw_w C L K z r A) → va_S Ad s.heap H locs → lv_has ls 3 [(0, .ref y0), (1, .int (hz_i x1))] → W p l e (headSpec wsX2_clear ({ frames := 0, cells := 0, slots := 0, locals := 0 } : Room)).room s m (List.toArray [.ref y0]) below meth c H locs 0 0 QQ (F0 m 2 ls []), fun _ _ => Iff.rfl⟩
    refine (hP2 A x1).mp (hw P2 ?_)
    intro A x1 hw
    refine (hP2 A x1).mpr ?_
    intro H locs ls hP hD hS hl
    refine lv_iload_n hx hb dX2_clear_2 rfl (lv_at hl 1 rfl) ?_
    refine lv_iconst (v := hz_i 4) hx hb dX2_clear_3 (by decide +kernel) ?_
    obtain ⟨h9a, hw⟩ := hw
    refine hz_icmp_ge (tgt := 20) hx hb dX2_clear_4 (by decide) h9a ⟨by decide, by decide⟩ (fun c_15 => ?_) (fun c_15 => ?_)
    · have hw := hw.1 c_15
      refine lv_iconst (v := hz_i 0) hx hb dX2_clear_20 (by decide +kernel) ?_
      refine lv_istore_n (lv' := [(1, .int (hz_i 0)), (0, .ref y0)]) hx hb dX2_clear_21 rfl hl (by decide) rfl (fun ls hl => ?_)
      exact L22 z A 0 hw H locs ls hP hD hS (lv_sub hl [1, 0] rfl)
    · have hw := hw.2 c_15
      refine lv_aload_n hx hb dX2_clear_7 rfl (lv_at hl 0 rfl) ?_
      obtain ⟨hO_16, hw⟩ := hw
      refine cw_get (ci := 2) (v := .ref (r y0 0)) hx hb hts hin2 hown hK hP hO_16.1 hO_16.2 rfl 0 (by decide) (hts (.fieldLink RX2 11 "HiddenMoves$Game" "counts" "[I") (List.mem_cons_of_mem _ (List.mem_append_left _ (List.mem_append_left _ (List.mem_of_getElem? (i := 0) rfl))))) (fun _ h9 => h9) rfl dX2_clear_8 ?_
      refine lv_iload_n hx hb dX2_clear_11 rfl (lv_at hl 1 rfl) ?_
      refine lv_iconst (v := hz_i 0) hx hb dX2_clear_12 (by decide +kernel) ?_
      obtain ⟨hO_17, hw⟩ := hw
      obtain ⟨h9i, hw⟩ := hw
      refine cw_ist (v := 0) hx hb hK hP hD hS hO_17.1 hO_17.2.2 h9i hO_17.2.1 dX2_clear_13 (fun H locs hP hD hS => ?_)
      obtain ⟨A_18, hA_18⟩ : ∃ y : Nat → Nat → Int, y = hz_s A (r y0 0) x1 0 := ⟨_, rfl⟩
      rw [← hA_18] at hP hD
      have hw := hw A_18 hA_18
      obtain ⟨x1_19, hx1_19⟩ : ∃ y : Int, y = x1 + 1 := ⟨_, rfl⟩
      have hw := hw x1_19 hx1_19
      refine lv_iinc (v := hz_i x1_19) (lv' := [(1, .int (hz_i x1_19)), (0, .ref y0)]) hx hb dX2_clear_14 hl (k := 1) rfl (by rw [hx1_19]; exact hz_i_add _ _) (by decide) rfl (fun ls hl => ?_)
      refine lv_goto (tgt := 2) hx hb dX2_clear_17 (by decide) ?_
      exact (hP2 A_18 x1_19).mp hw H locs ls hP hD hS (lv_sub hl [1, 0] rfl)
  have hP := hP0; have hD := hD0; have hS := hS0; have hl := hl0; have hw := hw0
  obtain ⟨H, hH⟩ : ∃ H : Heap, H = s.heap := ⟨_, rfl⟩
  obtain ⟨locs, hlocs⟩ : ∃ L : List Loc, L = [] := ⟨_, rfl⟩
  rw [← hH] at hP
  have hS : va_S Ad s.heap H locs := by rw [hH, hlocs]; exact hS
  refine mw_HL hH hlocs ?_
  refine lv_iconst (v := hz_i 0) hx hb dX2_clear_0 (by decide +kernel) ?_
  refine lv_istore_n (lv' := [(1, .int (hz_i 0)), (0, .ref y0)]) hx hb dX2_clear_1 rfl hl (by decide) rfl (fun ls hl => ?_)
  exact L2 z A 0 hw H locs ls hP hD hS (lv_sub hl [1, 0] rfl)

noncomputable def wp_c5_dueInNode_64 (L : List Nat) (K : Nat → cw_K) (z : Nat → Nat → Int) (r : Nat → Nat → Nat) (A : Nat → Nat → Int) (Q : Int → (Nat → Nat → Int) → Prop) : Prop := Q 2 z
noncomputable def wp_c5_dueInNode_12 (L : List Nat) (K : Nat → cw_K) (z : Nat → Nat → Int) (r : Nat → Nat → Nat) (A : Nat → Nat → Int) (y1 : Int) (t0 : Int) (t1 : Nat) (Q : Int → (Nat → Nat → Int) → Prop) : Prop := cw_O L K 5 t1 ∧ (t0 = 0 ∨ t0 = 1) ∧ ∀ z_2 : Nat → Nat → Int, z_2 = cw_s z t1 6 t0 → hz_rI y1 ∧ ((y1 = 63 → Q 4 z_2) ∧ (¬ y1 = 63 → ((y1 = 65 → wp_c5_dueInNode_64 L K z_2 r A  Q) ∧ (¬ y1 = 65 → ((y1 = 66 → wp_c5_dueInNode_64 L K z_2 r A  Q) ∧ (¬ y1 = 66 → ((y1 = 91 → Q 5 z_2) ∧ (¬ y1 = 91 → Q 0 z_2))))))))
noncomputable def wp_c5_dueInNode (L : List Nat) (K : Nat → cw_K) (z : Nat → Nat → Int) (r : Nat → Nat → Nat) (A : Nat → Nat → Int) (y0 : Nat) (y1 : Int) (Q : Int → (Nat → Nat → Int) → Prop) : Prop := hz_rI y1 ∧ ((¬ y1 = 91 → wp_c5_dueInNode_12 L K z r A y1 0 y0  Q) ∧ (y1 = 91 → wp_c5_dueInNode_12 L K z r A y1 1 y0  Q))
set_option maxHeartbeats 4000000 in
set_option maxRecDepth 100000 in
theorem k_c5_dueInNode (l : Launch) (D : va_G) (sz : Nat) (C : Nat → ClassId) (L : List Nat) (K : Nat → cw_K) (z : Nat → Nat → Int) (r : Nat → Nat → Nat) (A : Nat → Nat → Int) (y0 : Nat) (y1 : Int) (Q : Int → (Nat → Nat → Int) → Prop) (hw : wp_c5_dueInNode L K z r A y0 y1 Q) : Met l yX5_dueInNode wsX5_dueInNode ({ frames := 0, cells := 0, slots := 0, locals := 0 } : Room) (va_Pc [.ref y0, .int (hz_i y1)] (hm_P D (cw_w C L K z r A) (cw_t C) sz)) (va_Qi (S := Int × (Nat → Nat → Int) × (Nat → Nat → Nat) × (Nat → Nat → Int)) (fun r u => r = hz_i u.1 ∧ Q u.1 u.2.1) (fun u t => hm_B D (va_A (cw_w C L K z r A) sz) (cw_w C L K u.2.1 r A) (cw_t C) t) (va_A (cw_w C L K z r A) sz)) 0 0 (va_A (cw_w C L K z r A) sz) := by
  refine Met.ofW (cc := cX5_dueInNode) (maxL := 2) (ret := (some .int)) (by decide) rfl ?_
  intro p e s m args below meth c s₁ B hml hv
  obtain ⟨rfl, hsz, hP, hK, hD0, hE⟩ := hv
  have hx := B.exec
  have hb := B.bytes
  have hr := B.returns
  have hts := atoms_spec (ws := wsX5_dueInNode) B.pre
  have hown : s.vm.findClass RX5 = some m.cls := findClass_of_methodNamed B.named
  have hlocks := B.notSynchronized
  have hin5 : ∀ w ∈ u_ws RX5 TX5 13, w ∈ wsX5_dueInNode := fun w h => List.mem_cons_of_mem _ (List.mem_append_right _ (h))
  subst hsz
  have hD := hD0.self (sz := s.heap.size)
  generalize hAe : va_A (cw_w C L K z r A) s.heap.size = Ad at hD ⊢
  have hA : ∀ q : Nat, s.heap.size ≤ q → Ad q := fun q h => by rw [← hAe]; exact Or.inr h
  have hS : va_S Ad s.heap s.heap [] := va_S.rf
  have hl := lv_entry ([.ref y0, .int (hz_i y1)]) (n := 2) (Nat.le_of_ble_eq_true rfl)
  rw [lg_entry_eq]
  generalize (lg_sl ([.ref y0, .int (hz_i y1)]) ++ List.replicate (2 - (lg_sl ([.ref y0, .int (hz_i y1)])).length) Slot.unset).toArray = ls at hl ⊢
  have hl : lv_has ls 2 [(0, .ref y0), (1, .int (hz_i y1))] := hl
  refine mw_Q (fun QQ hQQ => ?_)
  have hP0 := hP; have hD0 := hD; have hS0 := hS; have hl0 := hl; have hw0 := hw
  clear hP hD hS hl hw
  have L64 : ∀ (z : Nat → Nat → Int), wp_c5_dueInNode_64 L K z r A  Q → ∀ (H : Heap) (locs : List Loc) (ls : Array Slot), va_P D vwCl (cw_w C L K z r A) H → va_D Ad (cw_w C L K z r A) → va_S Ad s.heap H locs → lv_has ls 2 [] → W p l e (headSpec wsX5_dueInNode ({ frames := 0, cells := 0, slots := 0, locals := 0 } : Room)).room s m (List.toArray [.ref y0, .int (hz_i y1)]) below meth c H locs 0 0 QQ (F0 m 64 ls []) := by
    intro z hw H locs ls hP hD hS hl
    refine lv_iconst (v := hz_i 2) hx hb dX5_dueInNode_64 (by decide +kernel) ?_
    subst hQQ
    subst hAe
    exact W.iret (v := hz_i 2) hx hb hr (fun t ht hW => ⟨⟨hz_i 2, (2, z, r, A), rfl, ⟨rfl, hw⟩, by rw [ht]; exact hP, va_K.moved hW.alike hK, hD⟩, hS.F ht⟩) hS.2.2 dX5_dueInNode_65
  have L12 : ∀ (z : Nat → Nat → Int) (t0 : Int) (t1 : Nat), wp_c5_dueInNode_12 L K z r A y1 t0 t1  Q → ∀ (H : Heap) (locs : List Loc) (ls : Array Slot), va_P D vwCl (cw_w C L K z r A) H → va_D Ad (cw_w C L K z r A) → va_S Ad s.heap H locs → lv_has ls 2 [(1, .int (hz_i y1))] → W p l e (headSpec wsX5_dueInNode ({ frames := 0, cells := 0, slots := 0, locals := 0 } : Room)).room s m (List.toArray [.ref y0, .int (hz_i y1)]) below meth c H locs 0 0 QQ (F0 m 12 ls [.int (hz_i t0), .ref t1]) := by
    intro z t0 t1 hw H locs ls hP hD hS hl
    obtain ⟨hO_1, hw⟩ := hw
    obtain ⟨h9z, hw⟩ := hw
    refine cw_putz (ci := 5) (ty := .boolean) (v := .int (hz_i t0)) (x := t0) hx hb hts hin5 tyX5 tyX5_ok nmX5 hown hK hP hD hS hO_1.1 hO_1.2 rfl 6 (by decide) (hts (.fieldLink RX5 39 "HiddenMoves$Reader" "isInEnd" "Z") (List.mem_cons_of_mem _ (List.mem_append_left _ (List.mem_of_getElem? (i := 0) rfl)))) (fun _ h9 => h9) rfl (by decide +kernel) (hz_tZ h9z) (hz_fZ h9z) (Nat.le_of_ble_eq_true rfl) (cw_z5_6 _ _ _) dX5_dueInNode_12 (fun H locs hP hD hS => ?_)
    obtain ⟨z_2, hz_2⟩ : ∃ y : Nat → Nat → Int, y = cw_s z t1 6 t0 := ⟨_, rfl⟩
    rw [← hz_2] at hP hD
    have hw := hw z_2 hz_2
    refine lv_iload_n hx hb dX5_dueInNode_15 rfl (lv_at hl 0 rfl) ?_
    obtain ⟨h9a, hw⟩ := hw
    by_cases h9c : y1 = 63
    · have hw := hw.1 h9c
      refine lv_lookup (tgt := 62) (off := 46) hx hb dX5_dueInNode_16 (by decide +kernel) (by rw [hz_i_toInt h9a, h9c]; decide +kernel) (by decide) ?_
      refine lv_iconst (v := hz_i 4) hx hb dX5_dueInNode_62 (by decide +kernel) ?_
      subst hQQ
      subst hAe
      exact W.iret (v := hz_i 4) hx hb hr (fun t ht hW => ⟨⟨hz_i 4, (4, z_2, r, A), rfl, ⟨rfl, hw⟩, by rw [ht]; exact hP, va_K.moved hW.alike hK, hD⟩, hS.F ht⟩) hS.2.2 dX5_dueInNode_63
    have hw := hw.2 h9c
    have h9c_3 := h9c
    by_cases h9c : y1 = 65
    · have hw := hw.1 h9c
      refine lv_lookup (tgt := 64) (off := 48) hx hb dX5_dueInNode_16 (by decide +kernel) (by rw [hz_i_toInt h9a, h9c]; decide +kernel) (by decide) ?_
      exact L64 z_2 hw H locs ls hP hD hS (lv_sub hl [] rfl)
    have hw := hw.2 h9c
    have h9c_4 := h9c
    by_cases h9c : y1 = 66
    · have hw := hw.1 h9c
      refine lv_lookup (tgt := 64) (off := 48) hx hb dX5_dueInNode_16 (by decide +kernel) (by rw [hz_i_toInt h9a, h9c]; decide +kernel) (by decide) ?_
      exact L64 z_2 hw H locs ls hP hD hS (lv_sub hl [] rfl)
    have hw := hw.2 h9c
    have h9c_5 := h9c
    by_cases h9c : y1 = 91
    · have hw := hw.1 h9c
      refine lv_lookup (tgt := 60) (off := 44) hx hb dX5_dueInNode_16 (by decide +kernel) (by rw [hz_i_toInt h9a, h9c]; decide +kernel) (by decide) ?_
      refine lv_iconst (v := hz_i 5) hx hb dX5_dueInNode_60 (by decide +kernel) ?_
      subst hQQ
      subst hAe
      exact W.iret (v := hz_i 5) hx hb hr (fun t ht hW => ⟨⟨hz_i 5, (5, z_2, r, A), rfl, ⟨rfl, hw⟩, by rw [ht]; exact hP, va_K.moved hW.alike hK, hD⟩, hS.F ht⟩) hS.2.2 dX5_dueInNode_61
    have hw := hw.2 h9c
    have h9c_6 := h9c
    refine lv_lookup (tgt := 66) (off := 50) hx hb dX5_dueInNode_16 (by decide +kernel) (by rw [hz_i_toInt h9a]; show Op.lookupswitch.offset [(63, 46), (65, 48), (66, 48), (91, 44)] (50) y1 = 50; simp only [Op.lookupswitch.offset_cons, Op.lookupswitch.offset_nil]; rw [if_neg (Ne.symm h9c_3), if_neg (Ne.symm h9c_4), if_neg (Ne.symm h9c_5), if_neg (Ne.symm h9c_6)]) (by decide) ?_
    refine lv_iconst (v := hz_i 0) hx hb dX5_dueInNode_66 (by decide +kernel) ?_
    subst hQQ
    subst hAe
    exact W.iret (v := hz_i 0) hx hb hr (fun t ht hW => ⟨⟨hz_i 0, (0, z_2, r, A), rfl, ⟨rfl, hw⟩, by rw [ht]; exact hP, va_K.moved hW.alike hK, hD⟩, hS.F ht⟩) hS.2.2 dX5_dueInNode_67
  have hP := hP0; have hD := hD0; have hS := hS0; have hl := hl0; have hw := hw0
  obtain ⟨H, hH⟩ : ∃ H : Heap, H = s.heap := ⟨_, rfl⟩
  obtain ⟨locs, hlocs⟩ : ∃ L : List Loc, L = [] := ⟨_, rfl⟩
  rw [← hH] at hP
  have hS : va_S Ad s.heap H locs := by rw [hH, hlocs]; exact hS
  refine mw_HL hH hlocs ?_
  refine lv_aload_n hx hb dX5_dueInNode_0 rfl (lv_at hl 0 rfl) ?_
  refine lv_iload_n hx hb dX5_dueInNode_1 rfl (lv_at hl 1 rfl) ?_
  refine lv_bipush (v := hz_i 91) hx hb dX5_dueInNode_2 (by decide +kernel) ?_
  obtain ⟨h9a, hw⟩ := hw
  refine hz_icmp_ne (tgt := 11) hx hb dX5_dueInNode_4 (by decide) h9a ⟨by decide, by decide⟩ (fun c_7 => ?_) (fun c_7 => ?_)
  · have hw := hw.1 c_7
    refine lv_iconst (v := hz_i 0) hx hb dX5_dueInNode_11 (by decide +kernel) ?_
    exact L12 z 0 y0 hw H locs ls hP hD hS (lv_sub hl [1] rfl)
  · have hw := hw.2 c_7
    refine lv_iconst (v := hz_i 1) hx hb dX5_dueInNode_7 (by decide +kernel) ?_
    refine lv_goto (tgt := 12) hx hb dX5_dueInNode_8 (by decide) ?_
    exact L12 z 1 y0 hw H locs ls hP hD hS (lv_sub hl [1] rfl)

noncomputable def wp_c5_openBracket_43 (L : List Nat) (K : Nat → cw_K) (z : Nat → Nat → Int) (r : Nat → Nat → Nat) (A : Nat → Nat → Int) (t0 : Int) (Q : Int → (Nat → Nat → Int) → (Nat → Nat → Int) → Prop) : Prop := Q t0 z A
noncomputable def wp_c5_openBracket (L : List Nat) (K : Nat → cw_K) (z : Nat → Nat → Int) (r : Nat → Nat → Nat) (A : Nat → Nat → Int) (y0 : Nat) (y1 : Int) (Q : Int → (Nat → Nat → Int) → (Nat → Nat → Int) → Prop) : Prop := cw_O L K 5 y0 ∧ cw_A L K 3 (r y0 4) ∧ hz_rI (z y0 5) ∧ hz_rI (cw_n K (r y0 4) : Int) ∧ ((z y0 5 < (cw_n K (r y0 4) : Int) → ((0 : Int) ≤ z y0 5 ∧ z y0 5 < (cw_n K (r y0 4) : Int)) ∧ (y1 = 0 ∨ y1 = 1) ∧ ∀ A_4 : Nat → Nat → Int, A_4 = hz_s A (r y0 4) (z y0 5) y1 → ∀ z_5 : Nat → Nat → Int, z_5 = cw_s z y0 5 ((z y0 5) + 1) → hz_rI y1 ∧ ((y1 = 0 → wp_c5_openBracket_43 L K z_5 r A_4 1  Q) ∧ (¬ (y1 = 0) → wp_c5_openBracket_43 L K z_5 r A_4 5  Q))) ∧ (¬ (z y0 5 < (cw_n K (r y0 4) : Int)) → Q 0 z A))
set_option maxHeartbeats 4000000 in
set_option maxRecDepth 100000 in
theorem k_c5_openBracket (l : Launch) (D : va_G) (sz : Nat) (C : Nat → ClassId) (L : List Nat) (K : Nat → cw_K) (z : Nat → Nat → Int) (r : Nat → Nat → Nat) (A : Nat → Nat → Int) (y0 : Nat) (y1 : Int) (Q : Int → (Nat → Nat → Int) → (Nat → Nat → Int) → Prop) (hw : wp_c5_openBracket L K z r A y0 y1 Q) : Met l yX5_openBracket wsX5_openBracket ({ frames := 0, cells := 0, slots := 0, locals := 0 } : Room) (va_Pc [.ref y0, .int (hz_i y1)] (hm_P D (cw_w C L K z r A) (cw_t C) sz)) (va_Qi (S := Int × (Nat → Nat → Int) × (Nat → Nat → Nat) × (Nat → Nat → Int)) (fun r u => r = hz_i u.1 ∧ Q u.1 u.2.1 u.2.2.2) (fun u t => hm_B D (va_A (cw_w C L K z r A) sz) (cw_w C L K u.2.1 r u.2.2.2) (cw_t C) t) (va_A (cw_w C L K z r A) sz)) 0 0 (va_A (cw_w C L K z r A) sz) := by
  refine Met.ofW (cc := cX5_openBracket) (maxL := 2) (ret := (some .int)) (by decide) rfl ?_
  intro p e s m args below meth c s₁ B hml hv
  obtain ⟨rfl, hsz, hP, hK, hD0, hE⟩ := hv
  have hx := B.exec
  have hb := B.bytes
  have hr := B.returns
  have hts := atoms_spec (ws := wsX5_openBracket) B.pre
  have hown : s.vm.findClass RX5 = some m.cls := findClass_of_methodNamed B.named
  have hlocks := B.notSynchronized
  have hin5 : ∀ w ∈ u_ws RX5 TX5 13, w ∈ wsX5_openBracket := fun w h => List.mem_cons_of_mem _ (List.mem_append_right _ (h))
  subst hsz
  have hD := hD0.self (sz := s.heap.size)
  generalize hAe : va_A (cw_w C L K z r A) s.heap.size = Ad at hD ⊢
  have hA : ∀ q : Nat, s.heap.size ≤ q → Ad q := fun q h => by rw [← hAe]; exact Or.inr h
  have hS : va_S Ad s.heap s.heap [] := va_S.rf
  have hl := lv_entry ([.ref y0, .int (hz_i y1)]) (n := 2) (Nat.le_of_ble_eq_true rfl)
  rw [lg_entry_eq]
  generalize (lg_sl ([.ref y0, .int (hz_i y1)]) ++ List.replicate (2 - (lg_sl ([.ref y0, .int (hz_i y1)])).length) Slot.unset).toArray = ls at hl ⊢
  have hl : lv_has ls 2 [(0, .ref y0), (1, .int (hz_i y1))] := hl
  refine mw_Q (fun QQ hQQ => ?_)
  have hP0 := hP; have hD0 := hD; have hS0 := hS; have hl0 := hl; have hw0 := hw
  clear hP hD hS hl hw
  have L43 : ∀ (z : Nat → Nat → Int) (A : Nat → Nat → Int) (t0 : Int), wp_c5_openBracket_43 L K z r A t0  Q → ∀ (H : Heap) (locs : List Loc) (ls : Array Slot), va_P D vwCl (cw_w C L K z r A) H → va_D Ad (cw_w C L K z r A) → va_S Ad s.heap H locs → lv_has ls 2 [] → W p l e (headSpec wsX5_openBracket ({ frames := 0, cells := 0, slots := 0, locals := 0 } : Room)).room s m (List.toArray [.ref y0, .int (hz_i y1)]) below meth c H locs 0 0 QQ (F0 m 43 ls [.int (hz_i t0)]) := by
    intro z A t0 hw H locs ls hP hD hS hl
    subst hQQ
    subst hAe
    exact W.iret (v := hz_i t0) hx hb hr (fun t ht hW => ⟨⟨hz_i t0, (t0, z, r, A), rfl, ⟨rfl, hw⟩, by rw [ht]; exact hP, va_K.moved hW.alike hK, hD⟩, hS.F ht⟩) hS.2.2 dX5_openBracket_43
  have hP := hP0; have hD := hD0; have hS := hS0; have hl := hl0; have hw := hw0
  obtain ⟨H, hH⟩ : ∃ H : Heap, H = s.heap := ⟨_, rfl⟩
  obtain ⟨locs, hlocs⟩ : ∃ L : List Loc, L = [] := ⟨_, rfl⟩
  rw [← hH] at hP
  have hS : va_S Ad s.heap H locs := by rw [hH, hlocs]; exact hS
  refine mw_HL hH hlocs ?_
  refine lv_aload_n hx hb dX5_openBracket_0 rfl (lv_at hl 0 rfl) ?_
  obtain ⟨hO_1, hw⟩ := hw
  refine cw_get (ci := 5) (v := .int (hz_i (z y0 5))) hx hb hts hin5 hown hK hP hO_1.1 hO_1.2 rfl 5 (by decide) (hts (.fieldLink RX5 36 "HiddenMoves$Reader" "open" "I") (List.mem_cons_of_mem _ (List.mem_append_left _ (List.mem_of_getElem? (i := 0) rfl)))) (fun _ h9 => h9) rfl dX5_openBracket_1 ?_
  refine lv_aload_n hx hb dX5_openBracket_4 rfl (lv_at hl 0 rfl) ?_
  refine cw_get (ci := 5) (v := .ref (r y0 4)) hx hb hts hin5 hown hK hP hO_1.1 hO_1.2 rfl 4 (by decide) (hts (.fieldLink RX5 32 "HiddenMoves$Reader" "isDrawOpen" "[Z") (List.mem_cons_of_mem _ (List.mem_append_left _ (List.mem_of_getElem? (i := 1) rfl)))) (fun _ h9 => h9) rfl dX5_openBracket_5 ?_
  obtain ⟨hO_2, hw⟩ := hw
  refine cw_len hx hb hK hP hO_2.1 hO_2.2.2 rfl dX5_openBracket_8 ?_
  obtain ⟨h9a, hw⟩ := hw
  obtain ⟨h9b, hw⟩ := hw
  refine hz_icmp_lt (tgt := 14) hx hb dX5_openBracket_9 (by decide) h9a h9b (fun c_3 => ?_) (fun c_3 => ?_)
  · have hw := hw.1 c_3
    refine lv_aload_n hx hb dX5_openBracket_14 rfl (lv_at hl 0 rfl) ?_
    refine cw_get (ci := 5) (v := .ref (r y0 4)) hx hb hts hin5 hown hK hP hO_1.1 hO_1.2 rfl 4 (by decide) (hts (.fieldLink RX5 32 "HiddenMoves$Reader" "isDrawOpen" "[Z") (List.mem_cons_of_mem _ (List.mem_append_left _ (List.mem_of_getElem? (i := 1) rfl)))) (fun _ h9 => h9) rfl dX5_openBracket_15 ?_
    refine lv_aload_n hx hb dX5_openBracket_18 rfl (lv_at hl 0 rfl) ?_
    refine cw_get (ci := 5) (v := .int (hz_i (z y0 5))) hx hb hts hin5 hown hK hP hO_1.1 hO_1.2 rfl 5 (by decide) (hts (.fieldLink RX5 36 "HiddenMoves$Reader" "open" "I") (List.mem_cons_of_mem _ (List.mem_append_left _ (List.mem_of_getElem? (i := 0) rfl)))) (fun _ h9 => h9) rfl dX5_openBracket_19 ?_
    refine lv_iload_n hx hb dX5_openBracket_22 rfl (lv_at hl 1 rfl) ?_
    obtain ⟨h9i, hw⟩ := hw
    obtain ⟨h9z, hw⟩ := hw
    refine cw_zst (v := y1) hx hb hK hP hD hS hO_2.1 hO_2.2.2 h9i hO_2.2.1 h9z dX5_openBracket_23 (fun H locs hP hD hS => ?_)
    obtain ⟨A_4, hA_4⟩ : ∃ y : Nat → Nat → Int, y = hz_s A (r y0 4) (z y0 5) y1 := ⟨_, rfl⟩
    rw [← hA_4] at hP hD
    have hw := hw A_4 hA_4
    refine lv_aload_n hx hb dX5_openBracket_24 rfl (lv_at hl 0 rfl) ?_
    refine lv_dup hx hb dX5_openBracket_25 rfl ?_
    refine cw_get (ci := 5) (v := .int (hz_i (z y0 5))) hx hb hts hin5 hown hK hP hO_1.1 hO_1.2 rfl 5 (by decide) (hts (.fieldLink RX5 36 "HiddenMoves$Reader" "open" "I") (List.mem_cons_of_mem _ (List.mem_append_left _ (List.mem_of_getElem? (i := 0) rfl)))) (fun _ h9 => h9) rfl dX5_openBracket_26 ?_
    refine lv_iconst (v := hz_i 1) hx hb dX5_openBracket_29 (by decide +kernel) ?_
    refine hz_iadd hx hb dX5_openBracket_30 ?_
    refine cw_putz (ci := 5) (ty := .int) (v := .int (hz_i ((z y0 5) + 1))) (x := (z y0 5) + 1) hx hb hts hin5 tyX5 tyX5_ok nmX5 hown hK hP hD hS hO_1.1 hO_1.2 rfl 5 (by decide) (hts (.fieldLink RX5 36 "HiddenMoves$Reader" "open" "I") (List.mem_cons_of_mem _ (List.mem_append_left _ (List.mem_of_getElem? (i := 0) rfl)))) (fun _ h9 => h9) rfl (by decide +kernel) rfl rfl (Nat.le_of_ble_eq_true rfl) (cw_z5_5 _ _ _) dX5_openBracket_31 (fun H locs hP hD hS => ?_)
    obtain ⟨z_5, hz_5⟩ : ∃ y : Nat → Nat → Int, y = cw_s z y0 5 ((z y0 5) + 1) := ⟨_, rfl⟩
    rw [← hz_5] at hP hD
    have hw := hw z_5 hz_5
    refine lv_iload_n hx hb dX5_openBracket_34 rfl (lv_at hl 1 rfl) ?_
    obtain ⟨h9a, hw⟩ := hw
    refine hz_if_eq (tgt := 42) hx hb dX5_openBracket_35 (by decide) h9a (fun c_6 => ?_) (fun c_6 => ?_)
    · have hw := hw.1 c_6
      refine lv_iconst (v := hz_i 1) hx hb dX5_openBracket_42 (by decide +kernel) ?_
      exact L43 z_5 A_4 1 hw H locs ls hP hD hS (lv_sub hl [] rfl)
    · have hw := hw.2 c_6
      refine lv_iconst (v := hz_i 5) hx hb dX5_openBracket_38 (by decide +kernel) ?_
      refine lv_goto (tgt := 43) hx hb dX5_openBracket_39 (by decide) ?_
      exact L43 z_5 A_4 5 hw H locs ls hP hD hS (lv_sub hl [] rfl)
  · have hw := hw.2 c_3
    refine lv_iconst (v := hz_i 0) hx hb dX5_openBracket_12 (by decide +kernel) ?_
    subst hQQ
    subst hAe
    exact W.iret (v := hz_i 0) hx hb hr (fun t ht hW => ⟨⟨hz_i 0, (0, z, r, A), rfl, ⟨rfl, hw⟩, by rw [ht]; exact hP, va_K.moved hW.alike hK, hD⟩, hS.F ht⟩) hS.2.2 dX5_openBracket_13

noncomputable def wp_c5_dueBehindFraction_33 (L : List Nat) (K : Nat → cw_K) (z : Nat → Nat → Int) (r : Nat → Nat → Nat) (A : Nat → Nat → Int) (y0 : Nat) (t0 : Int) (Q : Int → (Nat → Nat → Int) → Prop) : Prop := cw_O L K 5 y0 ∧ ∀ z_2 : Nat → Nat → Int, z_2 = cw_s z y0 6 0 → Q t0 z_2
noncomputable def wp_c5_dueBehindFraction_15 (L : List Nat) (K : Nat → cw_K) (z : Nat → Nat → Int) (r : Nat → Nat → Nat) (A : Nat → Nat → Int) (y0 : Nat) (t0 : Int) (t1 : Int) (Q : Int → (Nat → Nat → Int) → Prop) : Prop := hz_rI t1 ∧ hz_rI t0 ∧ ((t1 = t0 → cw_O L K 5 y0 ∧ hz_rI (z y0 6) ∧ ((z y0 6 = 0 → wp_c5_dueBehindFraction_33 L K z r A y0 1  Q) ∧ (¬ (z y0 6 = 0) → wp_c5_dueBehindFraction_33 L K z r A y0 10  Q))) ∧ (¬ (t1 = t0) → Q 0 z))
noncomputable def wp_c5_dueBehindFraction (L : List Nat) (K : Nat → cw_K) (z : Nat → Nat → Int) (r : Nat → Nat → Nat) (A : Nat → Nat → Int) (y0 : Nat) (y1 : Int) (Q : Int → (Nat → Nat → Int) → Prop) : Prop := cw_O L K 5 y0 ∧ hz_rI (z y0 6) ∧ ((z y0 6 = 0 → wp_c5_dueBehindFraction_15 L K z r A y0 58 y1  Q) ∧ (¬ (z y0 6 = 0) → wp_c5_dueBehindFraction_15 L K z r A y0 93 y1  Q))
set_option maxHeartbeats 4000000 in
set_option maxRecDepth 100000 in
theorem k_c5_dueBehindFraction (l : Launch) (D : va_G) (sz : Nat) (C : Nat → ClassId) (L : List Nat) (K : Nat → cw_K) (z : Nat → Nat → Int) (r : Nat → Nat → Nat) (A : Nat → Nat → Int) (y0 : Nat) (y1 : Int) (Q : Int → (Nat → Nat → Int) → Prop) (hw : wp_c5_dueBehindFraction L K z r A y0 y1 Q) : Met l yX5_dueBehindFraction wsX5_dueBehindFraction ({ frames := 0, cells := 0, slots := 0, locals := 0 } : Room) (va_Pc [.ref y0, .int (hz_i y1)] (hm_P D (cw_w C L K z r A) (cw_t C) sz)) (va_Qi (S := Int × (Nat → Nat → Int) × (Nat → Nat → Nat) × (Nat → Nat → Int)) (fun r u => r = hz_i u.1 ∧ Q u.1 u.2.1) (fun u t => hm_B D (va_A (cw_w C L K z r A) sz) (cw_w C L K u.2.1 r A) (cw_t C) t) (va_A (cw_w C L K z r A) sz)) 0 0 (va_A (cw_w C L K z r A) sz) := by
  refine Met.ofW (cc := cX5_dueBehindFraction) (maxL := 3) (ret := (some .int)) (by decide) rfl ?_
  intro p e s m args below meth c s₁ B hml hv
  obtain ⟨rfl, hsz, hP, hK, hD0, hE⟩ := hv
  have hx := B.exec
  have hb := B.bytes
  have hr := B.returns
  have hts := atoms_spec (ws := wsX5_dueBehindFraction) B.pre
  have hown : s.vm.findClass RX5 = some m.cls := findClass_of_methodNamed B.named
  have hlocks := B.notSynchronized
  have hin5 : ∀ w ∈ u_ws RX5 TX5 13, w ∈ wsX5_dueBehindFraction := fun w h => List.mem_cons_of_mem _ (List.mem_append_right _ (h))
  subst hsz
  have hD := hD0.self (sz := s.heap.size)
  generalize hAe : va_A (cw_w C L K z r A) s.heap.size = Ad at hD ⊢
  have hA : ∀ q : Nat, s.heap.size ≤ q → Ad q := fun q h => by rw [← hAe]; exact Or.inr h
  have hS : va_S Ad s.heap s.heap [] := va_S.rf
  have hl := lv_entry ([.ref y0, .int (hz_i y1)]) (n := 3) (Nat.le_of_ble_eq_true rfl)
  rw [lg_entry_eq]
  generalize (lg_sl ([.ref y0, .int (hz_i y1)]) ++ List.replicate (3 - (lg_sl ([.ref y0, .int (hz_i y1)])).length) Slot.unset).toArray = ls at hl ⊢
  have hl : lv_has ls 3 [(0, .ref y0), (1, .int (hz_i y1))] := hl
  refine mw_Q (fun QQ hQQ => ?_)
  have hP0 := hP; have hD0 := hD; have hS0 := hS; have hl0 := hl; have hw0 := hw
  clear hP hD hS hl hw
  have L33 : ∀ (z : Nat → Nat → Int) (t0 : Int), wp_c5_dueBehindFraction_33 L K z r A y0 t0  Q → ∀ (H : Heap) (locs : List Loc) (ls : Array Slot), va_P D vwCl (cw_w C L K z r A) H → va_D Ad (cw_w C L K z r A) → va_S Ad s.heap H locs → lv_has ls 3 [(0, .ref y0)] → W p l e (headSpec wsX5_dueBehindFraction ({ frames := 0, cells := 0, slots := 0, locals := 0 } : Room)).room s m (List.toArray [.ref y0, .int (hz_i y1)]) below meth c H locs 0 0 QQ (F0 m 33 ls [.int (hz_i t0)]) := by
    intro z t0 hw H locs ls hP hD hS hl
    refine lv_istore_n (lv' := [(2, .int (hz_i t0)), (0, .ref y0)]) hx hb dX5_dueBehindFraction_33 rfl hl (by decide) rfl (fun ls hl => ?_)
    refine lv_aload_n hx hb dX5_dueBehindFraction_34 rfl (lv_at hl 1 rfl) ?_
    refine lv_iconst (v := hz_i 0) hx hb dX5_dueBehindFraction_35 (by decide +kernel) ?_
    obtain ⟨hO_1, hw⟩ := hw
    refine cw_putz (ci := 5) (ty := .boolean) (v := .int (hz_i 0)) (x := 0) hx hb hts hin5 tyX5 tyX5_ok nmX5 hown hK hP hD hS hO_1.1 hO_1.2 rfl 6 (by decide) (hts (.fieldLink RX5 39 "HiddenMoves$Reader" "isInEnd" "Z") (List.mem_cons_of_mem _ (List.mem_append_left _ (List.mem_of_getElem? (i := 0) rfl)))) (fun _ h9 => h9) rfl (by decide +kernel) (hz_tZ (by decide)) (hz_fZ (by decide)) (Nat.le_of_ble_eq_true rfl) (cw_z5_6 _ _ _) dX5_dueBehindFraction_36 (fun H locs hP hD hS => ?_)
    obtain ⟨z_2, hz_2⟩ : ∃ y : Nat → Nat → Int, y = cw_s z y0 6 0 := ⟨_, rfl⟩
    rw [← hz_2] at hP hD
    have hw := hw z_2 hz_2
    refine lv_iload_n hx hb dX5_dueBehindFraction_39 rfl (lv_at hl 0 rfl) ?_
    subst hQQ
    subst hAe
    exact W.iret (v := hz_i t0) hx hb hr (fun t ht hW => ⟨⟨hz_i t0, (t0, z_2, r, A), rfl, ⟨rfl, hw⟩, by rw [ht]; exact hP, va_K.moved hW.alike hK, hD⟩, hS.F ht⟩) hS.2.2 dX5_dueBehindFraction_40
  have L15 : ∀ (z : Nat → Nat → Int) (t0 : Int) (t1 : Int), wp_c5_dueBehindFraction_15 L K z r A y0 t0 t1  Q → ∀ (H : Heap) (locs : List Loc) (ls : Array Slot), va_P D vwCl (cw_w C L K z r A) H → va_D Ad (cw_w C L K z r A) → va_S Ad s.heap H locs → lv_has ls 3 [(0, .ref y0)] → W p l e (headSpec wsX5_dueBehindFraction ({ frames := 0, cells := 0, slots := 0, locals := 0 } : Room)).room s m (List.toArray [.ref y0, .int (hz_i y1)]) below meth c H locs 0 0 QQ (F0 m 15 ls [.int (hz_i t0), .int (hz_i t1)]) := by
    intro z t0 t1 hw H locs ls hP hD hS hl
    obtain ⟨h9a, hw⟩ := hw
    obtain ⟨h9b, hw⟩ := hw
    refine hz_icmp_eq (tgt := 20) hx hb dX5_dueBehindFraction_15 (by decide) h9a h9b (fun c_3 => ?_) (fun c_3 => ?_)
    · have hw := hw.1 c_3
      refine lv_aload_n hx hb dX5_dueBehindFraction_20 rfl (lv_at hl 0 rfl) ?_
      obtain ⟨hO_4, hw⟩ := hw
      refine cw_get (ci := 5) (v := .int (hz_i (z y0 6))) hx hb hts hin5 hown hK hP hO_4.1 hO_4.2 rfl 6 (by decide) (hts (.fieldLink RX5 39 "HiddenMoves$Reader" "isInEnd" "Z") (List.mem_cons_of_mem _ (List.mem_append_left _ (List.mem_of_getElem? (i := 0) rfl)))) (fun _ h9 => h9) rfl dX5_dueBehindFraction_21 ?_
      obtain ⟨h9a, hw⟩ := hw
      refine hz_if_eq (tgt := 32) hx hb dX5_dueBehindFraction_24 (by decide) h9a (fun c_5 => ?_) (fun c_5 => ?_)
      · have hw := hw.1 c_5
        refine lv_iconst (v := hz_i 1) hx hb dX5_dueBehindFraction_32 (by decide +kernel) ?_
        exact L33 z 1 hw H locs ls hP hD hS (lv_sub hl [0] rfl)
      · have hw := hw.2 c_5
        refine lv_bipush (v := hz_i 10) hx hb dX5_dueBehindFraction_27 (by decide +kernel) ?_
        refine lv_goto (tgt := 33) hx hb dX5_dueBehindFraction_29 (by decide) ?_
        exact L33 z 10 hw H locs ls hP hD hS (lv_sub hl [0] rfl)
    · have hw := hw.2 c_3
      refine lv_iconst (v := hz_i 0) hx hb dX5_dueBehindFraction_18 (by decide +kernel) ?_
      subst hQQ
      subst hAe
      exact W.iret (v := hz_i 0) hx hb hr (fun t ht hW => ⟨⟨hz_i 0, (0, z, r, A), rfl, ⟨rfl, hw⟩, by rw [ht]; exact hP, va_K.moved hW.alike hK, hD⟩, hS.F ht⟩) hS.2.2 dX5_dueBehindFraction_19
  have hP := hP0; have hD := hD0; have hS := hS0; have hl := hl0; have hw := hw0
  obtain ⟨H, hH⟩ : ∃ H : Heap, H = s.heap := ⟨_, rfl⟩
  obtain ⟨locs, hlocs⟩ : ∃ L : List Loc, L = [] := ⟨_, rfl⟩
  rw [← hH] at hP
  have hS : va_S Ad s.heap H locs := by rw [hH, hlocs]; exact hS
  refine mw_HL hH hlocs ?_
  refine lv_iload_n hx hb dX5_dueBehindFraction_0 rfl (lv_at hl 1 rfl) ?_
  refine lv_aload_n hx hb dX5_dueBehindFraction_1 rfl (lv_at hl 0 rfl) ?_
  obtain ⟨hO_6, hw⟩ := hw
  refine cw_get (ci := 5) (v := .int (hz_i (z y0 6))) hx hb hts hin5 hown hK hP hO_6.1 hO_6.2 rfl 6 (by decide) (hts (.fieldLink RX5 39 "HiddenMoves$Reader" "isInEnd" "Z") (List.mem_cons_of_mem _ (List.mem_append_left _ (List.mem_of_getElem? (i := 0) rfl)))) (fun _ h9 => h9) rfl dX5_dueBehindFraction_2 ?_
  obtain ⟨h9a, hw⟩ := hw
  refine hz_if_eq (tgt := 13) hx hb dX5_dueBehindFraction_5 (by decide) h9a (fun c_7 => ?_) (fun c_7 => ?_)
  · have hw := hw.1 c_7
    refine lv_bipush (v := hz_i 58) hx hb dX5_dueBehindFraction_13 (by decide +kernel) ?_
    exact L15 z 58 y1 hw H locs ls hP hD hS (lv_sub hl [0] rfl)
  · have hw := hw.2 c_7
    refine lv_bipush (v := hz_i 93) hx hb dX5_dueBehindFraction_8 (by decide +kernel) ?_
    refine lv_goto (tgt := 15) hx hb dX5_dueBehindFraction_10 (by decide) ?_
    exact L15 z 93 y1 hw H locs ls hP hD hS (lv_sub hl [0] rfl)

noncomputable def wp_c5_dueBehindNode_59 (L : List Nat) (K : Nat → cw_K) (z : Nat → Nat → Int) (r : Nat → Nat → Nat) (A : Nat → Nat → Int) (Q : Int → (Nat → Nat → Int) → Prop) : Prop := Q 0 z
noncomputable def wp_c5_dueBehindNode_58 (L : List Nat) (K : Nat → cw_K) (z : Nat → Nat → Int) (r : Nat → Nat → Nat) (A : Nat → Nat → Int) (t0 : Int) (Q : Int → (Nat → Nat → Int) → Prop) : Prop := Q t0 z
noncomputable def wp_c5_dueBehindNode_26 (L : List Nat) (K : Nat → cw_K) (z : Nat → Nat → Int) (r : Nat → Nat → Nat) (A : Nat → Nat → Int) (y0 : Nat) (y1 : Int) (Q : Int → (Nat → Nat → Int) → Prop) : Prop := cw_O L K 5 y0 ∧ hz_rI (z y0 5) ∧ ((z y0 5 ≤ 0 → wp_c5_dueBehindNode_59 L K z r A  Q) ∧ (¬ (z y0 5 ≤ 0) → hz_rI y1 ∧ ((¬ y1 = 44 → wp_c5_dueBehindNode_59 L K z r A  Q) ∧ (y1 = 44 → cw_A L K 3 (r y0 4) ∧ ((0 : Int) ≤ (z y0 5) - 1 ∧ (z y0 5) - 1 < (cw_n K (r y0 4) : Int)) ∧ hz_rI (A (r y0 4) (((z y0 5) - 1).toNat)) ∧ ((A (r y0 4) (((z y0 5) - 1).toNat) = 0 → wp_c5_dueBehindNode_58 L K z r A 1  Q) ∧ (¬ (A (r y0 4) (((z y0 5) - 1).toNat) = 0) → wp_c5_dueBehindNode_58 L K z r A 5  Q))))))
noncomputable def wp_c5_dueBehindNode (L : List Nat) (K : Nat → cw_K) (z : Nat → Nat → Int) (r : Nat → Nat → Nat) (A : Nat → Nat → Int) (y0 : Nat) (y1 : Int) (Q : Int → (Nat → Nat → Int) → Prop) : Prop := cw_O L K 5 y0 ∧ hz_rI (z y0 5) ∧ ((z y0 5 ≤ 0 → wp_c5_dueBehindNode_26 L K z r A y0 y1  Q) ∧ (¬ (z y0 5 ≤ 0) → hz_rI y1 ∧ ((¬ y1 = 41 → wp_c5_dueBehindNode_26 L K z r A y0 y1  Q) ∧ (y1 = 41 → ∀ z_9 : Nat → Nat → Int, z_9 = cw_s z y0 5 ((z y0 5) - 1) → Q 10 z_9))))
set_option maxHeartbeats 4000000 in
set_option maxRecDepth 100000 in
theorem k_c5_dueBehindNode (l : Launch) (D : va_G) (sz : Nat) (C : Nat → ClassId) (L : List Nat) (K : Nat → cw_K) (z : Nat → Nat → Int) (r : Nat → Nat → Nat) (A : Nat → Nat → Int) (y0 : Nat) (y1 : Int) (Q : Int → (Nat → Nat → Int) → Prop) (hw : wp_c5_dueBehindNode L K z r A y0 y1 Q) : Met l yX5_dueBehindNode wsX5_dueBehindNode ({ frames := 0, cells := 0, slots := 0, locals := 0 } : Room) (va_Pc [.ref y0, .int (hz_i y1)] (hm_P D (cw_w C L K z r A) (cw_t C) sz)) (va_Qi (S := Int × (Nat → Nat → Int) × (Nat → Nat → Nat) × (Nat → Nat → Int)) (fun r u => r = hz_i u.1 ∧ Q u.1 u.2.1) (fun u t => hm_B D (va_A (cw_w C L K z r A) sz) (cw_w C L K u.2.1 r A) (cw_t C) t) (va_A (cw_w C L K z r A) sz)) 0 0 (va_A (cw_w C L K z r A) sz) := by
  refine Met.ofW (cc := cX5_dueBehindNode) (maxL := 2) (ret := (some .int)) (by decide) rfl ?_
  intro p e s m args below meth c s₁ B hml hv
  obtain ⟨rfl, hsz, hP, hK, hD0, hE⟩ := hv
  have hx := B.exec
  have hb := B.bytes
  have hr := B.returns
  have hts := atoms_spec (ws := wsX5_dueBehindNode) B.pre
  have hown : s.vm.findClass RX5 = some m.cls := findClass_of_methodNamed B.named
  have hlocks := B.notSynchronized
  have hin5 : ∀ w ∈ u_ws RX5 TX5 13, w ∈ wsX5_dueBehindNode := fun w h => List.mem_cons_of_mem _ (List.mem_append_right _ (h))
  subst hsz
  have hD := hD0.self (sz := s.heap.size)
  generalize hAe : va_A (cw_w C L K z r A) s.heap.size = Ad at hD ⊢
  have hA : ∀ q : Nat, s.heap.size ≤ q → Ad q := fun q h => by rw [← hAe]; exact Or.inr h
  have hS : va_S Ad s.heap s.heap [] := va_S.rf
  have hl := lv_entry ([.ref y0, .int (hz_i y1)]) (n := 2) (Nat.le_of_ble_eq_true rfl)
  rw [lg_entry_eq]
  generalize (lg_sl ([.ref y0, .int (hz_i y1)]) ++ List.replicate (2 - (lg_sl ([.ref y0, .int (hz_i y1)])).length) Slot.unset).toArray = ls at hl ⊢
  have hl : lv_has ls 2 [(0, .ref y0), (1, .int (hz_i y1))] := hl
  refine mw_Q (fun QQ hQQ => ?_)
  have hP0 := hP; have hD0 := hD; have hS0 := hS; have hl0 := hl; have hw0 := hw
  clear hP hD hS hl hw
  have L59 : ∀ (z : Nat → Nat → Int), wp_c5_dueBehindNode_59 L K z r A  Q → ∀ (H : Heap) (locs : List Loc) (ls : Array Slot), va_P D vwCl (cw_w C L K z r A) H → va_D Ad (cw_w C L K z r A) → va_S Ad s.heap H locs → lv_has ls 2 [] → W p l e (headSpec wsX5_dueBehindNode ({ frames := 0, cells := 0, slots := 0, locals := 0 } : Room)).room s m (List.toArray [.ref y0, .int (hz_i y1)]) below meth c H locs 0 0 QQ (F0 m 59 ls []) := by
    intro z hw H locs ls hP hD hS hl
    refine lv_iconst (v := hz_i 0) hx hb dX5_dueBehindNode_59 (by decide +kernel) ?_
    subst hQQ
    subst hAe
    exact W.iret (v := hz_i 0) hx hb hr (fun t ht hW => ⟨⟨hz_i 0, (0, z, r, A), rfl, ⟨rfl, hw⟩, by rw [ht]; exact hP, va_K.moved hW.alike hK, hD⟩, hS.F ht⟩) hS.2.2 dX5_dueBehindNode_60
  have L58 : ∀ (z : Nat → Nat → Int) (t0 : Int), wp_c5_dueBehindNode_58 L K z r A t0  Q → ∀ (H : Heap) (locs : List Loc) (ls : Array Slot), va_P D vwCl (cw_w C L K z r A) H → va_D Ad (cw_w C L K z r A) → va_S Ad s.heap H locs → lv_has ls 2 [] → W p l e (headSpec wsX5_dueBehindNode ({ frames := 0, cells := 0, slots := 0, locals := 0 } : Room)).room s m (List.toArray [.ref y0, .int (hz_i y1)]) below meth c H locs 0 0 QQ (F0 m 58 ls [.int (hz_i t0)]) := by
    intro z t0 hw H locs ls hP hD hS hl
    subst hQQ
    subst hAe
    exact W.iret (v := hz_i t0) hx hb hr (fun t ht hW => ⟨⟨hz_i t0, (t0, z, r, A), rfl, ⟨rfl, hw⟩, by rw [ht]; exact hP, va_K.moved hW.alike hK, hD⟩, hS.F ht⟩) hS.2.2 dX5_dueBehindNode_58
  have L26 : ∀ (z : Nat → Nat → Int), wp_c5_dueBehindNode_26 L K z r A y0 y1  Q → ∀ (H : Heap) (locs : List Loc) (ls : Array Slot), va_P D vwCl (cw_w C L K z r A) H → va_D Ad (cw_w C L K z r A) → va_S Ad s.heap H locs → lv_has ls 2 [(0, .ref y0), (1, .int (hz_i y1))] → W p l e (headSpec wsX5_dueBehindNode ({ frames := 0, cells := 0, slots := 0, locals := 0 } : Room)).room s m (List.toArray [.ref y0, .int (hz_i y1)]) below meth c H locs 0 0 QQ (F0 m 26 ls []) := by
    intro z hw H locs ls hP hD hS hl
    refine lv_aload_n hx hb dX5_dueBehindNode_26 rfl (lv_at hl 0 rfl) ?_
    obtain ⟨hO_1, hw⟩ := hw
    refine cw_get (ci := 5) (v := .int (hz_i (z y0 5))) hx hb hts hin5 hown hK hP hO_1.1 hO_1.2 rfl 5 (by decide) (hts (.fieldLink RX5 36 "HiddenMoves$Reader" "open" "I") (List.mem_cons_of_mem _ (List.mem_append_left _ (List.mem_of_getElem? (i := 0) rfl)))) (fun _ h9 => h9) rfl dX5_dueBehindNode_27 ?_
    obtain ⟨h9a, hw⟩ := hw
    refine hz_if_le (tgt := 59) hx hb dX5_dueBehindNode_30 (by decide) h9a (fun c_2 => ?_) (fun c_2 => ?_)
    · have hw := hw.1 c_2
      exact L59 z hw H locs ls hP hD hS (lv_sub hl [] rfl)
    · have hw := hw.2 c_2
      refine lv_iload_n hx hb dX5_dueBehindNode_33 rfl (lv_at hl 1 rfl) ?_
      refine lv_bipush (v := hz_i 44) hx hb dX5_dueBehindNode_34 (by decide +kernel) ?_
      obtain ⟨h9a, hw⟩ := hw
      refine hz_icmp_ne (tgt := 59) hx hb dX5_dueBehindNode_36 (by decide) h9a ⟨by decide, by decide⟩ (fun c_3 => ?_) (fun c_3 => ?_)
      · have hw := hw.1 c_3
        exact L59 z hw H locs ls hP hD hS (lv_sub hl [] rfl)
      · have hw := hw.2 c_3
        refine lv_aload_n hx hb dX5_dueBehindNode_39 rfl (lv_at hl 0 rfl) ?_
        refine cw_get (ci := 5) (v := .ref (r y0 4)) hx hb hts hin5 hown hK hP hO_1.1 hO_1.2 rfl 4 (by decide) (hts (.fieldLink RX5 32 "HiddenMoves$Reader" "isDrawOpen" "[Z") (List.mem_cons_of_mem _ (List.mem_append_left _ (List.mem_of_getElem? (i := 1) rfl)))) (fun _ h9 => h9) rfl dX5_dueBehindNode_40 ?_
        refine lv_aload_n hx hb dX5_dueBehindNode_43 rfl (lv_at hl 0 rfl) ?_
        refine cw_get (ci := 5) (v := .int (hz_i (z y0 5))) hx hb hts hin5 hown hK hP hO_1.1 hO_1.2 rfl 5 (by decide) (hts (.fieldLink RX5 36 "HiddenMoves$Reader" "open" "I") (List.mem_cons_of_mem _ (List.mem_append_left _ (List.mem_of_getElem? (i := 0) rfl)))) (fun _ h9 => h9) rfl dX5_dueBehindNode_44 ?_
        refine lv_iconst (v := hz_i 1) hx hb dX5_dueBehindNode_47 (by decide +kernel) ?_
        refine hz_isub hx hb dX5_dueBehindNode_48 ?_
        obtain ⟨hO_4, hw⟩ := hw
        obtain ⟨h9i, hw⟩ := hw
        refine cw_zld hx hb hK hP hO_4.1 hO_4.2.2 h9i hO_4.2.1 dX5_dueBehindNode_49 ?_
        obtain ⟨h9a, hw⟩ := hw
        refine hz_if_eq (tgt := 57) hx hb dX5_dueBehindNode_50 (by decide) h9a (fun c_5 => ?_) (fun c_5 => ?_)
        · have hw := hw.1 c_5
          refine lv_iconst (v := hz_i 1) hx hb dX5_dueBehindNode_57 (by decide +kernel) ?_
          exact L58 z 1 hw H locs ls hP hD hS (lv_sub hl [] rfl)
        · have hw := hw.2 c_5
          refine lv_iconst (v := hz_i 5) hx hb dX5_dueBehindNode_53 (by decide +kernel) ?_
          refine lv_goto (tgt := 58) hx hb dX5_dueBehindNode_54 (by decide) ?_
          exact L58 z 5 hw H locs ls hP hD hS (lv_sub hl [] rfl)
  have hP := hP0; have hD := hD0; have hS := hS0; have hl := hl0; have hw := hw0
  obtain ⟨H, hH⟩ : ∃ H : Heap, H = s.heap := ⟨_, rfl⟩
  obtain ⟨locs, hlocs⟩ : ∃ L : List Loc, L = [] := ⟨_, rfl⟩
  rw [← hH] at hP
  have hS : va_S Ad s.heap H locs := by rw [hH, hlocs]; exact hS
  refine mw_HL hH hlocs ?_
  refine lv_aload_n hx hb dX5_dueBehindNode_0 rfl (lv_at hl 0 rfl) ?_
  obtain ⟨hO_6, hw⟩ := hw
  refine cw_get (ci := 5) (v := .int (hz_i (z y0 5))) hx hb hts hin5 hown hK hP hO_6.1 hO_6.2 rfl 5 (by decide) (hts (.fieldLink RX5 36 "HiddenMoves$Reader" "open" "I") (List.mem_cons_of_mem _ (List.mem_append_left _ (List.mem_of_getElem? (i := 0) rfl)))) (fun _ h9 => h9) rfl dX5_dueBehindNode_1 ?_
  obtain ⟨h9a, hw⟩ := hw
  refine hz_if_le (tgt := 26) hx hb dX5_dueBehindNode_4 (by decide) h9a (fun c_7 => ?_) (fun c_7 => ?_)
  · have hw := hw.1 c_7
    exact L26 z hw H locs ls hP hD hS (lv_sub hl [0, 1] rfl)
  · have hw := hw.2 c_7
    refine lv_iload_n hx hb dX5_dueBehindNode_7 rfl (lv_at hl 1 rfl) ?_
    refine lv_bipush (v := hz_i 41) hx hb dX5_dueBehindNode_8 (by decide +kernel) ?_
    obtain ⟨h9a, hw⟩ := hw
    refine hz_icmp_ne (tgt := 26) hx hb dX5_dueBehindNode_10 (by decide) h9a ⟨by decide, by decide⟩ (fun c_8 => ?_) (fun c_8 => ?_)
    · have hw := hw.1 c_8
      exact L26 z hw H locs ls hP hD hS (lv_sub hl [0, 1] rfl)
    · have hw := hw.2 c_8
      refine lv_aload_n hx hb dX5_dueBehindNode_13 rfl (lv_at hl 0 rfl) ?_
      refine lv_dup hx hb dX5_dueBehindNode_14 rfl ?_
      refine cw_get (ci := 5) (v := .int (hz_i (z y0 5))) hx hb hts hin5 hown hK hP hO_6.1 hO_6.2 rfl 5 (by decide) (hts (.fieldLink RX5 36 "HiddenMoves$Reader" "open" "I") (List.mem_cons_of_mem _ (List.mem_append_left _ (List.mem_of_getElem? (i := 0) rfl)))) (fun _ h9 => h9) rfl dX5_dueBehindNode_15 ?_
      refine lv_iconst (v := hz_i 1) hx hb dX5_dueBehindNode_18 (by decide +kernel) ?_
      refine hz_isub hx hb dX5_dueBehindNode_19 ?_
      refine cw_putz (ci := 5) (ty := .int) (v := .int (hz_i ((z y0 5) - 1))) (x := (z y0 5) - 1) hx hb hts hin5 tyX5 tyX5_ok nmX5 hown hK hP hD hS hO_6.1 hO_6.2 rfl 5 (by decide) (hts (.fieldLink RX5 36 "HiddenMoves$Reader" "open" "I") (List.mem_cons_of_mem _ (List.mem_append_left _ (List.mem_of_getElem? (i := 0) rfl)))) (fun _ h9 => h9) rfl (by decide +kernel) rfl rfl (Nat.le_of_ble_eq_true rfl) (cw_z5_5 _ _ _) dX5_dueBehindNode_20 (fun H locs hP hD hS => ?_)
      obtain ⟨z_9, hz_9⟩ : ∃ y : Nat → Nat → Int, y = cw_s z y0 5 ((z y0 5) - 1) := ⟨_, rfl⟩
      rw [← hz_9] at hP hD
      have hw := hw z_9 hz_9
      refine lv_bipush (v := hz_i 10) hx hb dX5_dueBehindNode_23 (by decide +kernel) ?_
      subst hQQ
      subst hAe
      exact W.iret (v := hz_i 10) hx hb hr (fun t ht hW => ⟨⟨hz_i 10, (10, z_9, r, A), rfl, ⟨rfl, hw⟩, by rw [ht]; exact hP, va_K.moved hW.alike hK, hD⟩, hS.F ht⟩) hS.2.2 dX5_dueBehindNode_25

noncomputable def wp_c5_dueBehind_174 (L : List Nat) (K : Nat → cw_K) (z : Nat → Nat → Int) (r : Nat → Nat → Nat) (A : Nat → Nat → Int) (t0 : Int) (Q : Int → (Nat → Nat → Int) → (Nat → Nat → Int) → Prop) : Prop := Q t0 z A
noncomputable def wp_c5_dueBehind_161 (L : List Nat) (K : Nat → cw_K) (z : Nat → Nat → Int) (r : Nat → Nat → Nat) (A : Nat → Nat → Int) (t0 : Int) (Q : Int → (Nat → Nat → Int) → (Nat → Nat → Int) → Prop) : Prop := Q t0 z A
noncomputable def wp_c5_dueBehind_144 (L : List Nat) (K : Nat → cw_K) (z : Nat → Nat → Int) (r : Nat → Nat → Nat) (A : Nat → Nat → Int) (t0 : Int) (Q : Int → (Nat → Nat → Int) → (Nat → Nat → Int) → Prop) : Prop := Q t0 z A
noncomputable def wp_c5_dueBehind_131 (L : List Nat) (K : Nat → cw_K) (z : Nat → Nat → Int) (r : Nat → Nat → Nat) (A : Nat → Nat → Int) (t0 : Int) (Q : Int → (Nat → Nat → Int) → (Nat → Nat → Int) → Prop) : Prop := Q t0 z A
noncomputable def wp_c5_dueBehind_109 (L : List Nat) (K : Nat → cw_K) (z : Nat → Nat → Int) (r : Nat → Nat → Nat) (A : Nat → Nat → Int) (t0 : Int) (Q : Int → (Nat → Nat → Int) → (Nat → Nat → Int) → Prop) : Prop := Q t0 z A
noncomputable def wp_c5_dueBehind_93 (L : List Nat) (K : Nat → cw_K) (z : Nat → Nat → Int) (r : Nat → Nat → Nat) (A : Nat → Nat → Int) (t0 : Int) (Q : Int → (Nat → Nat → Int) → (Nat → Nat → Int) → Prop) : Prop := Q t0 z A
noncomputable def wp_c5_dueBehind_77 (L : List Nat) (K : Nat → cw_K) (z : Nat → Nat → Int) (r : Nat → Nat → Nat) (A : Nat → Nat → Int) (t0 : Int) (Q : Int → (Nat → Nat → Int) → (Nat → Nat → Int) → Prop) : Prop := Q t0 z A
noncomputable def wp_c5_dueBehind (L : List Nat) (K : Nat → cw_K) (z : Nat → Nat → Int) (r : Nat → Nat → Nat) (A : Nat → Nat → Int) (y0 : Nat) (y1 : Int) (Q : Int → (Nat → Nat → Int) → (Nat → Nat → Int) → Prop) : Prop := cw_O L K 5 y0 ∧ cw_O L K 10 (r y0 2) ∧ ∀ x2_3 : Int, x2_3 = z (r y0 2) 2 → hz_rI y1 ∧ ((y1 = 1 → wp_c5_dueInNode L K z r A y0 x2_3 (fun rv_4 z_5 => Q rv_4 z_5 A)) ∧ (¬ y1 = 1 → ((y1 = 2 → hz_rI x2_3 ∧ ((¬ x2_3 = 48 → wp_c5_dueBehind_77 L K z r A 0  Q) ∧ (x2_3 = 48 → wp_c5_dueBehind_77 L K z r A 3  Q))) ∧ (¬ y1 = 2 → ((y1 = 3 → hz_rI x2_3 ∧ ((¬ x2_3 = 40 → wp_c5_dueBehind_93 L K z r A 0  Q) ∧ (x2_3 = 40 → wp_c5_openBracket L K z r A y0 0 (fun rv_10 z_11 A_12 => wp_c5_dueBehind_93 L K z_11 r A_12 rv_10  Q)))) ∧ (¬ y1 = 3 → ((y1 = 4 → hz_rI x2_3 ∧ ((¬ x2_3 = 40 → wp_c5_dueBehind_109 L K z r A 0  Q) ∧ (x2_3 = 40 → wp_c5_openBracket L K z r A y0 1 (fun rv_15 z_16 A_17 => wp_c5_dueBehind_109 L K z_16 r A_17 rv_15  Q)))) ∧ (¬ y1 = 4 → ((y1 = 5 → hz_rI x2_3 ∧ ((¬ x2_3 = 45 → hz_rI x2_3 ∧ ((¬ x2_3 = 48 → wp_c5_dueBehind_131 L K z r A 0  Q) ∧ (x2_3 = 48 → wp_c5_dueBehind_131 L K z r A 7  Q))) ∧ (x2_3 = 45 → Q 6 z A))) ∧ (¬ y1 = 5 → ((y1 = 6 → hz_rI x2_3 ∧ ((¬ x2_3 = 48 → wp_c5_dueBehind_144 L K z r A 0  Q) ∧ (x2_3 = 48 → wp_c5_dueBehind_144 L K z r A 7  Q))) ∧ (¬ y1 = 6 → ((y1 = 7 → hz_rI x2_3 ∧ ((¬ x2_3 = 47 → wp_c5_dueBehindFraction L K z r A y0 x2_3 (fun rv_25 z_26 => wp_c5_dueBehind_161 L K z_26 r A rv_25  Q)) ∧ (x2_3 = 47 → wp_c5_dueBehind_161 L K z r A 8  Q))) ∧ (¬ y1 = 7 → ((y1 = 8 → hz_rI x2_3 ∧ ((¬ x2_3 = 48 → wp_c5_dueBehind_174 L K z r A 0  Q) ∧ (x2_3 = 48 → wp_c5_dueBehind_174 L K z r A 9  Q))) ∧ (¬ y1 = 8 → ((y1 = 9 → wp_c5_dueBehindFraction L K z r A y0 x2_3 (fun rv_30 z_31 => Q rv_30 z_31 A)) ∧ (¬ y1 = 9 → wp_c5_dueBehindNode L K z r A y0 x2_3 (fun rv_33 z_34 => Q rv_33 z_34 A)))))))))))))))))))
theorem tb_c5_dueBehind_9 {a : Int} (h : hz_rI a) (h0 : ¬ a = 1) (h1 : ¬ a = 2) (h2 : ¬ a = 3) (h3 : ¬ a = 4) (h4 : ¬ a = 5) (h5 : ¬ a = 6) (h6 : ¬ a = 7) (h7 : ¬ a = 8) (h8 : ¬ a = 9) : (hz_i a).toInt < 1 ∨ 9 < (hz_i a).toInt := by
  rw [hz_i_toInt h]
  omega
set_option maxHeartbeats 4000000 in
set_option maxRecDepth 100000 in
theorem k_c5_dueBehind (l : Launch) (D : va_G) (sz : Nat) (C : Nat → ClassId) (L : List Nat) (K : Nat → cw_K) (z : Nat → Nat → Int) (r : Nat → Nat → Nat) (A : Nat → Nat → Int) (y0 : Nat) (y1 : Int) (Q : Int → (Nat → Nat → Int) → (Nat → Nat → Int) → Prop) (hw : wp_c5_dueBehind L K z r A y0 y1 Q) : Met l yX5_dueBehind wsX5_dueBehind ({ frames := 1, cells := 0, slots := 0, locals := 22 } : Room) (va_Pc [.ref y0, .int (hz_i y1)] (hm_P D (cw_w C L K z r A) (cw_t C) sz)) (va_Qi (S := Int × (Nat → Nat → Int) × (Nat → Nat → Nat) × (Nat → Nat → Int)) (fun r u => r = hz_i u.1 ∧ Q u.1 u.2.1 u.2.2.2) (fun u t => hm_B D (va_A (cw_w C L K z r A) sz) (cw_w C L K u.2.1 r u.2.2.2) (cw_t C) t) (va_A (cw_w C L K z r A) sz)) 0 0 (va_A (cw_w C L K z r A) sz) := by
  refine Met.ofW (cc := cX5_dueBehind) (maxL := 3) (ret := (some .int)) (by decide) rfl ?_
  intro p e s m args below meth c s₁ B hml hv
  obtain ⟨rfl, hsz, hP, hK, hD0, hE⟩ := hv
  have hx := B.exec
  have hb := B.bytes
  have hr := B.returns
  have hts := atoms_spec (ws := wsX5_dueBehind) B.pre
  have hown : s.vm.findClass RX5 = some m.cls := findClass_of_methodNamed B.named
  have hlocks := B.notSynchronized
  have hin5 : ∀ w ∈ u_ws RX5 TX5 13, w ∈ wsX5_dueBehind := fun w h => List.mem_cons_of_mem _ (List.mem_append_left _ (List.mem_append_right _ (h)))
  have hin10 : ∀ w ∈ u_ws RX10 TX10 6, w ∈ wsX5_dueBehind := fun w h => List.mem_cons_of_mem _ (List.mem_append_right _ (h))
  subst hsz
  have hD := hD0.self (sz := s.heap.size)
  generalize hAe : va_A (cw_w C L K z r A) s.heap.size = Ad at hD ⊢
  have hA : ∀ q : Nat, s.heap.size ≤ q → Ad q := fun q h => by rw [← hAe]; exact Or.inr h
  have hS : va_S Ad s.heap s.heap [] := va_S.rf
  have hl := lv_entry ([.ref y0, .int (hz_i y1)]) (n := 3) (Nat.le_of_ble_eq_true rfl)
  rw [lg_entry_eq]
  generalize (lg_sl ([.ref y0, .int (hz_i y1)]) ++ List.replicate (3 - (lg_sl ([.ref y0, .int (hz_i y1)])).length) Slot.unset).toArray = ls at hl ⊢
  have hl : lv_has ls 3 [(0, .ref y0), (1, .int (hz_i y1))] := hl
  refine mw_Q (fun QQ hQQ => ?_)
  have hP0 := hP; have hD0 := hD; have hS0 := hS; have hl0 := hl; have hw0 := hw
  clear hP hD hS hl hw
  have L174 : ∀ (z : Nat → Nat → Int) (A : Nat → Nat → Int) (t0 : Int), wp_c5_dueBehind_174 L K z r A t0  Q → ∀ (H : Heap) (locs : List Loc) (ls : Array Slot), va_P D vwCl (cw_w C L K z r A) H → va_D Ad (cw_w C L K z r A) → va_S Ad s.heap H locs → lv_has ls 3 [] → W p l e (headSpec wsX5_dueBehind ({ frames := 1, cells := 0, slots := 0, locals := 22 } : Room)).room s m (List.toArray [.ref y0, .int (hz_i y1)]) below meth c H locs 0 0 QQ (F0 m 174 ls [.int (hz_i t0)]) := by
    intro z A t0 hw H locs ls hP hD hS hl
    subst hQQ
    subst hAe
    exact W.iret (v := hz_i t0) hx hb hr (fun t ht hW => ⟨⟨hz_i t0, (t0, z, r, A), rfl, ⟨rfl, hw⟩, by rw [ht]; exact hP, va_K.moved hW.alike hK, hD⟩, hS.F ht⟩) hS.2.2 dX5_dueBehind_174
  have L161 : ∀ (z : Nat → Nat → Int) (A : Nat → Nat → Int) (t0 : Int), wp_c5_dueBehind_161 L K z r A t0  Q → ∀ (H : Heap) (locs : List Loc) (ls : Array Slot), va_P D vwCl (cw_w C L K z r A) H → va_D Ad (cw_w C L K z r A) → va_S Ad s.heap H locs → lv_has ls 3 [] → W p l e (headSpec wsX5_dueBehind ({ frames := 1, cells := 0, slots := 0, locals := 22 } : Room)).room s m (List.toArray [.ref y0, .int (hz_i y1)]) below meth c H locs 0 0 QQ (F0 m 161 ls [.int (hz_i t0)]) := by
    intro z A t0 hw H locs ls hP hD hS hl
    subst hQQ
    subst hAe
    exact W.iret (v := hz_i t0) hx hb hr (fun t ht hW => ⟨⟨hz_i t0, (t0, z, r, A), rfl, ⟨rfl, hw⟩, by rw [ht]; exact hP, va_K.moved hW.alike hK, hD⟩, hS.F ht⟩) hS.2.2 dX5_dueBehind_161
  have L144 : ∀ (z : Nat → Nat → Int) (A : Nat → Nat → Int) (t0 : Int), wp_c5_dueBehind_144 L K z r A t0  Q → ∀ (H : Heap) (locs : List Loc) (ls : Array Slot), va_P D vwCl (cw_w C L K z r A) H → va_D Ad (cw_w C L K z r A) → va_S Ad s.heap H locs → lv_has ls 3 [] → W p l e (headSpec wsX5_dueBehind ({ frames := 1, cells := 0, slots := 0, locals := 22 } : Room)).room s m (List.toArray [.ref y0, .int (hz_i y1)]) below meth c H locs 0 0 QQ (F0 m 144 ls [.int (hz_i t0)]) := by
    intro z A t0 hw H locs ls hP hD hS hl
    subst hQQ
    subst hAe
    exact W.iret (v := hz_i t0) hx hb hr (fun t ht hW => ⟨⟨hz_i t0, (t0, z, r, A), rfl, ⟨rfl, hw⟩, by rw [ht]; exact hP, va_K.moved hW.alike hK, hD⟩, hS.F ht⟩) hS.2.2 dX5_dueBehind_144
  have L131 : ∀ (z : Nat → Nat → Int) (A : Nat → Nat → Int) (t0 : Int), wp_c5_dueBehind_131 L K z r A t0  Q → ∀ (H : Heap) (locs : List Loc) (ls : Array Slot), va_P D vwCl (cw_w C L K z r A) H → va_D Ad (cw_w C L K z r A) → va_S Ad s.heap H locs → lv_has ls 3 [] → W p l e (headSpec wsX5_dueBehind ({ frames := 1, cells := 0, slots := 0, locals := 22 } : Room)).room s m (List.toArray [.ref y0, .int (hz_i y1)]) below meth c H locs 0 0 QQ (F0 m 131 ls [.int (hz_i t0)]) := by
    intro z A t0 hw H locs ls hP hD hS hl
    subst hQQ
    subst hAe
    exact W.iret (v := hz_i t0) hx hb hr (fun t ht hW => ⟨⟨hz_i t0, (t0, z, r, A), rfl, ⟨rfl, hw⟩, by rw [ht]; exact hP, va_K.moved hW.alike hK, hD⟩, hS.F ht⟩) hS.2.2 dX5_dueBehind_131
  have L109 : ∀ (z : Nat → Nat → Int) (A : Nat → Nat → Int) (t0 : Int), wp_c5_dueBehind_109 L K z r A t0  Q → ∀ (H : Heap) (locs : List Loc) (ls : Array Slot), va_P D vwCl (cw_w C L K z r A) H → va_D Ad (cw_w C L K z r A) → va_S Ad s.heap H locs → lv_has ls 3 [] → W p l e (headSpec wsX5_dueBehind ({ frames := 1, cells := 0, slots := 0, locals := 22 } : Room)).room s m (List.toArray [.ref y0, .int (hz_i y1)]) below meth c H locs 0 0 QQ (F0 m 109 ls [.int (hz_i t0)]) := by
    intro z A t0 hw H locs ls hP hD hS hl
    subst hQQ
    subst hAe
    exact W.iret (v := hz_i t0) hx hb hr (fun t ht hW => ⟨⟨hz_i t0, (t0, z, r, A), rfl, ⟨rfl, hw⟩, by rw [ht]; exact hP, va_K.moved hW.alike hK, hD⟩, hS.F ht⟩) hS.2.2 dX5_dueBehind_109
  have L93 : ∀ (z : Nat → Nat → Int) (A : Nat → Nat → Int) (t0 : Int), wp_c5_dueBehind_93 L K z r A t0  Q → ∀ (H : Heap) (locs : List Loc) (ls : Array Slot), va_P D vwCl (cw_w C L K z r A) H → va_D Ad (cw_w C L K z r A) → va_S Ad s.heap H locs → lv_has ls 3 [] → W p l e (headSpec wsX5_dueBehind ({ frames := 1, cells := 0, slots := 0, locals := 22 } : Room)).room s m (List.toArray [.ref y0, .int (hz_i y1)]) below meth c H locs 0 0 QQ (F0 m 93 ls [.int (hz_i t0)]) := by
    intro z A t0 hw H locs ls hP hD hS hl
    subst hQQ
    subst hAe
    exact W.iret (v := hz_i t0) hx hb hr (fun t ht hW => ⟨⟨hz_i t0, (t0, z, r, A), rfl, ⟨rfl, hw⟩, by rw [ht]; exact hP, va_K.moved hW.alike hK, hD⟩, hS.F ht⟩) hS.2.2 dX5_dueBehind_93
  have L77 : ∀ (z : Nat → Nat → Int) (A : Nat → Nat → Int) (t0 : Int), wp_c5_dueBehind_77 L K z r A t0  Q → ∀ (H : Heap) (locs : List Loc) (ls : Array Slot), va_P D vwCl (cw_w C L K z r A) H → va_D Ad (cw_w C L K z r A) → va_S Ad s.heap H locs → lv_has ls 3 [] → W p l e (headSpec wsX5_dueBehind ({ frames := 1, cells := 0, slots := 0, locals := 22 } : Room)).room s m (List.toArray [.ref y0, .int (hz_i y1)]) below meth c H locs 0 0 QQ (F0 m 77 ls [.int (hz_i t0)]) := by
    intro z A t0 hw H locs ls hP hD hS hl
    subst hQQ
    subst hAe
    exact W.iret (v := hz_i t0) hx hb hr (fun t ht hW => ⟨⟨hz_i t0, (t0, z, r, A), rfl, ⟨rfl, hw⟩, by rw [ht]; exact hP, va_K.moved hW.alike hK, hD⟩, hS.F ht⟩) hS.2.2 dX5_dueBehind_77
  have hP := hP0; have hD := hD0; have hS := hS0; have hl := hl0; have hw := hw0
  obtain ⟨H, hH⟩ : ∃ H : Heap, H = s.heap := ⟨_, rfl⟩
  obtain ⟨locs, hlocs⟩ : ∃ L : List Loc, L = [] := ⟨_, rfl⟩
  rw [← hH] at hP
  have hS : va_S Ad s.heap H locs := by rw [hH, hlocs]; exact hS
  refine mw_HL hH hlocs ?_
  refine lv_aload_n hx hb dX5_dueBehind_0 rfl (lv_at hl 0 rfl) ?_
  obtain ⟨hO_1, hw⟩ := hw
  refine cw_get (ci := 5) (v := .ref (r y0 2)) hx hb hts hin5 hown hK hP hO_1.1 hO_1.2 rfl 2 (by decide) (hts (.fieldLink RX5 21 "HiddenMoves$Reader" "words" "LHiddenMoves$Words;") (List.mem_cons_of_mem _ (List.mem_append_left _ (List.mem_append_left _ (List.mem_of_getElem? (i := 0) rfl))))) (fun _ h9 => h9) rfl dX5_dueBehind_1 ?_
  obtain ⟨hO_2, hw⟩ := hw
  refine cw_get (ci := 10) (v := .int (hz_i (z (r y0 2) 2))) hx hb hts hin10 hown hK hP hO_2.1 hO_2.2 rfl 2 (by decide) (hts (.fieldLink RX5 88 "HiddenMoves$Words" "kind" "I") (List.mem_cons_of_mem _ (List.mem_append_left _ (List.mem_append_left _ (List.mem_of_getElem? (i := 1) rfl))))) (fun _ h9 => h9) rfl dX5_dueBehind_4 ?_
  refine hz_topi (fun x2_3 hx2_3 => ?_)
  have hw := hw x2_3 hx2_3
  refine lv_istore_n (lv' := [(2, .int (hz_i x2_3)), (0, .ref y0), (1, .int (hz_i y1))]) hx hb dX5_dueBehind_7 rfl hl (by decide) rfl (fun ls hl => ?_)
  refine lv_iload_n hx hb dX5_dueBehind_8 rfl (lv_at hl 2 rfl) ?_
  obtain ⟨h9a, hw⟩ := hw
  by_cases h9c : y1 = 1
  · have hw := hw.1 h9c
    refine lv_tableIn (tgt := 60) (off := 51) hx hb dX5_dueBehind_9 (cw_tb1 h9a h9c (by decide)) (cw_tb2 h9a h9c (by decide)) (by rw [hz_i_toInt h9a, h9c]; decide +kernel) (by decide) ?_
    refine lv_aload_n hx hb dX5_dueBehind_60 rfl (lv_at hl 1 rfl) ?_
    refine lv_iload_n hx hb dX5_dueBehind_61 rfl (lv_at hl 0 rfl) ?_
    have hFc := cw_free hD hS hA
    obtain ⟨q9, hq9⟩ := cw_at (C := C) (z := z) (r := r) (A := A) hO_1.1 hO_1.2
    refine va_calli (va_runV (As := [.int (hz_i x2_3)]) (rest := []) ⟨hx, hb, hml, hown, hts⟩ (k_c5_dueInNode l D _ C L K z r A y0 x2_3 _ hw) (cwV 1 hts gX5_dueBehind_X5_dueInNode rfl rfl rfl (by decide +kernel) ⟨Nat.le_of_ble_eq_true rfl, Nat.le_of_ble_eq_true rfl⟩) ⟨hm_blind, va_recv hK hP (ci := 5) (q0 := q9) rfl hq9, hm_pre hP hK hD hE⟩ rfl rfl hl.1 rfl (lv_room (Nat.le_of_ble_eq_true rfl)) dX5_dueBehind_62 ⟨Nat.le_of_ble_eq_true rfl, Nat.le_of_ble_eq_true rfl⟩) hS (fun q _ h => hFc q h) hFc (fun rv u t H1 locs ht hvm hw hB hz1 hk1 hS => ?_)
    obtain ⟨rv_4, z_5, _, _⟩ := u
    obtain ⟨hP, hK1, hD1⟩ := hB
    rw [ht] at hP
    obtain ⟨hrv, hw⟩ := hw
    subst hrv
    have hD := hD1.weaken (fun k q _ h => hFc q.1 h)
    have hP : va_P D vwCl (cw_w C L K z_5 r A) H1 := hP
    have hD : va_D Ad (cw_w C L K z_5 r A) := hD
    generalize H1 = H at hP hS ⊢
    refine W.eq (g2 := F0 m 65 ls [.int (hz_i rv_4)]) rfl ?_
    subst hQQ
    subst hAe
    exact W.iret (v := hz_i rv_4) hx hb hr (fun t ht hW => ⟨⟨hz_i rv_4, (rv_4, z_5, r, A), rfl, ⟨rfl, hw⟩, by rw [ht]; exact hP, va_K.moved hW.alike hK, hD⟩, hS.F ht⟩) hS.2.2 dX5_dueBehind_65
  have hw := hw.2 h9c
  have h9c_6 := h9c
  by_cases h9c : y1 = 2
  · have hw := hw.1 h9c
    refine lv_tableIn (tgt := 66) (off := 57) hx hb dX5_dueBehind_9 (cw_tb1 h9a h9c (by decide)) (cw_tb2 h9a h9c (by decide)) (by rw [hz_i_toInt h9a, h9c]; decide +kernel) (by decide) ?_
    refine lv_iload_n hx hb dX5_dueBehind_66 rfl (lv_at hl 0 rfl) ?_
    refine lv_bipush (v := hz_i 48) hx hb dX5_dueBehind_67 (by decide +kernel) ?_
    obtain ⟨h9a, hw⟩ := hw
    refine hz_icmp_ne (tgt := 76) hx hb dX5_dueBehind_69 (by decide) h9a ⟨by decide, by decide⟩ (fun c_7 => ?_) (fun c_7 => ?_)
    · have hw := hw.1 c_7
      refine lv_iconst (v := hz_i 0) hx hb dX5_dueBehind_76 (by decide +kernel) ?_
      exact L77 z A 0 hw H locs ls hP hD hS (lv_sub hl [] rfl)
    · have hw := hw.2 c_7
      refine lv_iconst (v := hz_i 3) hx hb dX5_dueBehind_72 (by decide +kernel) ?_
      refine lv_goto (tgt := 77) hx hb dX5_dueBehind_73 (by decide) ?_
      exact L77 z A 3 hw H locs ls hP hD hS (lv_sub hl [] rfl)
  have hw := hw.2 h9c
  have h9c_8 := h9c
  by_cases h9c : y1 = 3
  · have hw := hw.1 h9c
    refine lv_tableIn (tgt := 78) (off := 69) hx hb dX5_dueBehind_9 (cw_tb1 h9a h9c (by decide)) (cw_tb2 h9a h9c (by decide)) (by rw [hz_i_toInt h9a, h9c]; decide +kernel) (by decide) ?_
    refine lv_iload_n hx hb dX5_dueBehind_78 rfl (lv_at hl 0 rfl) ?_
    refine lv_bipush (v := hz_i 40) hx hb dX5_dueBehind_79 (by decide +kernel) ?_
    obtain ⟨h9a, hw⟩ := hw
    refine hz_icmp_ne (tgt := 92) hx hb dX5_dueBehind_81 (by decide) h9a ⟨by decide, by decide⟩ (fun c_9 => ?_) (fun c_9 => ?_)
    · have hw := hw.1 c_9
      refine lv_iconst (v := hz_i 0) hx hb dX5_dueBehind_92 (by decide +kernel) ?_
      exact L93 z A 0 hw H locs ls hP hD hS (lv_sub hl [] rfl)
    · have hw := hw.2 c_9
      refine lv_aload_n hx hb dX5_dueBehind_84 rfl (lv_at hl 1 rfl) ?_
      refine lv_iconst (v := hz_i 0) hx hb dX5_dueBehind_85 (by decide +kernel) ?_
      have hFc := cw_free hD hS hA
      obtain ⟨q9, hq9⟩ := cw_at (C := C) (z := z) (r := r) (A := A) hO_1.1 hO_1.2
      refine va_calli (va_runV (As := [.int (hz_i 0)]) (rest := []) ⟨hx, hb, hml, hown, hts⟩ (k_c5_openBracket l D _ C L K z r A y0 0 _ hw) (cwV 1 hts gX5_dueBehind_X5_openBracket rfl rfl rfl (by decide +kernel) ⟨Nat.le_of_ble_eq_true rfl, Nat.le_of_ble_eq_true rfl⟩) ⟨hm_blind, va_recv hK hP (ci := 5) (q0 := q9) rfl hq9, hm_pre hP hK hD hE⟩ rfl rfl hl.1 rfl (lv_room (Nat.le_of_ble_eq_true rfl)) dX5_dueBehind_86 ⟨Nat.le_of_ble_eq_true rfl, Nat.le_of_ble_eq_true rfl⟩) hS (fun q _ h => hFc q h) hFc (fun rv u t H1 locs ht hvm hw hB hz1 hk1 hS => ?_)
      obtain ⟨rv_10, z_11, _, A_12⟩ := u
      obtain ⟨hP, hK1, hD1⟩ := hB
      rw [ht] at hP
      obtain ⟨hrv, hw⟩ := hw
      subst hrv
      have hD := hD1.weaken (fun k q _ h => hFc q.1 h)
      have hP : va_P D vwCl (cw_w C L K z_11 r A_12) H1 := hP
      have hD : va_D Ad (cw_w C L K z_11 r A_12) := hD
      generalize H1 = H at hP hS ⊢
      refine W.eq (g2 := F0 m 89 ls [.int (hz_i rv_10)]) rfl ?_
      refine lv_goto (tgt := 93) hx hb dX5_dueBehind_89 (by decide) ?_
      exact L93 z_11 A_12 rv_10 hw H locs ls hP hD hS (lv_sub hl [] rfl)
  have hw := hw.2 h9c
  have h9c_13 := h9c
  by_cases h9c : y1 = 4
  · have hw := hw.1 h9c
    refine lv_tableIn (tgt := 94) (off := 85) hx hb dX5_dueBehind_9 (cw_tb1 h9a h9c (by decide)) (cw_tb2 h9a h9c (by decide)) (by rw [hz_i_toInt h9a, h9c]; decide +kernel) (by decide) ?_
    refine lv_iload_n hx hb dX5_dueBehind_94 rfl (lv_at hl 0 rfl) ?_
    refine lv_bipush (v := hz_i 40) hx hb dX5_dueBehind_95 (by decide +kernel) ?_
    obtain ⟨h9a, hw⟩ := hw
    refine hz_icmp_ne (tgt := 108) hx hb dX5_dueBehind_97 (by decide) h9a ⟨by decide, by decide⟩ (fun c_14 => ?_) (fun c_14 => ?_)
    · have hw := hw.1 c_14
      refine lv_iconst (v := hz_i 0) hx hb dX5_dueBehind_108 (by decide +kernel) ?_
      exact L109 z A 0 hw H locs ls hP hD hS (lv_sub hl [] rfl)
    · have hw := hw.2 c_14
      refine lv_aload_n hx hb dX5_dueBehind_100 rfl (lv_at hl 1 rfl) ?_
      refine lv_iconst (v := hz_i 1) hx hb dX5_dueBehind_101 (by decide +kernel) ?_
      have hFc := cw_free hD hS hA
      obtain ⟨q9, hq9⟩ := cw_at (C := C) (z := z) (r := r) (A := A) hO_1.1 hO_1.2
      refine va_calli (va_runV (As := [.int (hz_i 1)]) (rest := []) ⟨hx, hb, hml, hown, hts⟩ (k_c5_openBracket l D _ C L K z r A y0 1 _ hw) (cwV 1 hts gX5_dueBehind_X5_openBracket rfl rfl rfl (by decide +kernel) ⟨Nat.le_of_ble_eq_true rfl, Nat.le_of_ble_eq_true rfl⟩) ⟨hm_blind, va_recv hK hP (ci := 5) (q0 := q9) rfl hq9, hm_pre hP hK hD hE⟩ rfl rfl hl.1 rfl (lv_room (Nat.le_of_ble_eq_true rfl)) dX5_dueBehind_102 ⟨Nat.le_of_ble_eq_true rfl, Nat.le_of_ble_eq_true rfl⟩) hS (fun q _ h => hFc q h) hFc (fun rv u t H1 locs ht hvm hw hB hz1 hk1 hS => ?_)
      obtain ⟨rv_15, z_16, _, A_17⟩ := u
      obtain ⟨hP, hK1, hD1⟩ := hB
      rw [ht] at hP
      obtain ⟨hrv, hw⟩ := hw
      subst hrv
      have hD := hD1.weaken (fun k q _ h => hFc q.1 h)
      have hP : va_P D vwCl (cw_w C L K z_16 r A_17) H1 := hP
      have hD : va_D Ad (cw_w C L K z_16 r A_17) := hD
      generalize H1 = H at hP hS ⊢
      refine W.eq (g2 := F0 m 105 ls [.int (hz_i rv_15)]) rfl ?_
      refine lv_goto (tgt := 109) hx hb dX5_dueBehind_105 (by decide) ?_
      exact L109 z_16 A_17 rv_15 hw H locs ls hP hD hS (lv_sub hl [] rfl)
  have hw := hw.2 h9c
  have h9c_18 := h9c
  by_cases h9c : y1 = 5
  · have hw := hw.1 h9c
    refine lv_tableIn (tgt := 110) (off := 101) hx hb dX5_dueBehind_9 (cw_tb1 h9a h9c (by decide)) (cw_tb2 h9a h9c (by decide)) (by rw [hz_i_toInt h9a, h9c]; decide +kernel) (by decide) ?_
    refine lv_iload_n hx hb dX5_dueBehind_110 rfl (lv_at hl 0 rfl) ?_
    refine lv_bipush (v := hz_i 45) hx hb dX5_dueBehind_111 (by decide +kernel) ?_
    obtain ⟨h9a, hw⟩ := hw
    refine hz_icmp_ne (tgt := 119) hx hb dX5_dueBehind_113 (by decide) h9a ⟨by decide, by decide⟩ (fun c_19 => ?_) (fun c_19 => ?_)
    · have hw := hw.1 c_19
      refine lv_iload_n hx hb dX5_dueBehind_119 rfl (lv_at hl 0 rfl) ?_
      refine lv_bipush (v := hz_i 48) hx hb dX5_dueBehind_120 (by decide +kernel) ?_
      obtain ⟨h9a, hw⟩ := hw
      refine hz_icmp_ne (tgt := 130) hx hb dX5_dueBehind_122 (by decide) h9a ⟨by decide, by decide⟩ (fun c_20 => ?_) (fun c_20 => ?_)
      · have hw := hw.1 c_20
        refine lv_iconst (v := hz_i 0) hx hb dX5_dueBehind_130 (by decide +kernel) ?_
        exact L131 z A 0 hw H locs ls hP hD hS (lv_sub hl [] rfl)
      · have hw := hw.2 c_20
        refine lv_bipush (v := hz_i 7) hx hb dX5_dueBehind_125 (by decide +kernel) ?_
        refine lv_goto (tgt := 131) hx hb dX5_dueBehind_127 (by decide) ?_
        exact L131 z A 7 hw H locs ls hP hD hS (lv_sub hl [] rfl)
    · have hw := hw.2 c_19
      refine lv_bipush (v := hz_i 6) hx hb dX5_dueBehind_116 (by decide +kernel) ?_
      subst hQQ
      subst hAe
      exact W.iret (v := hz_i 6) hx hb hr (fun t ht hW => ⟨⟨hz_i 6, (6, z, r, A), rfl, ⟨rfl, hw⟩, by rw [ht]; exact hP, va_K.moved hW.alike hK, hD⟩, hS.F ht⟩) hS.2.2 dX5_dueBehind_118
  have hw := hw.2 h9c
  have h9c_21 := h9c
  by_cases h9c : y1 = 6
  · have hw := hw.1 h9c
    refine lv_tableIn (tgt := 132) (off := 123) hx hb dX5_dueBehind_9 (cw_tb1 h9a h9c (by decide)) (cw_tb2 h9a h9c (by decide)) (by rw [hz_i_toInt h9a, h9c]; decide +kernel) (by decide) ?_
    refine lv_iload_n hx hb dX5_dueBehind_132 rfl (lv_at hl 0 rfl) ?_
    refine lv_bipush (v := hz_i 48) hx hb dX5_dueBehind_133 (by decide +kernel) ?_
    obtain ⟨h9a, hw⟩ := hw
    refine hz_icmp_ne (tgt := 143) hx hb dX5_dueBehind_135 (by decide) h9a ⟨by decide, by decide⟩ (fun c_22 => ?_) (fun c_22 => ?_)
    · have hw := hw.1 c_22
      refine lv_iconst (v := hz_i 0) hx hb dX5_dueBehind_143 (by decide +kernel) ?_
      exact L144 z A 0 hw H locs ls hP hD hS (lv_sub hl [] rfl)
    · have hw := hw.2 c_22
      refine lv_bipush (v := hz_i 7) hx hb dX5_dueBehind_138 (by decide +kernel) ?_
      refine lv_goto (tgt := 144) hx hb dX5_dueBehind_140 (by decide) ?_
      exact L144 z A 7 hw H locs ls hP hD hS (lv_sub hl [] rfl)
  have hw := hw.2 h9c
  have h9c_23 := h9c
  by_cases h9c : y1 = 7
  · have hw := hw.1 h9c
    refine lv_tableIn (tgt := 145) (off := 136) hx hb dX5_dueBehind_9 (cw_tb1 h9a h9c (by decide)) (cw_tb2 h9a h9c (by decide)) (by rw [hz_i_toInt h9a, h9c]; decide +kernel) (by decide) ?_
    refine lv_iload_n hx hb dX5_dueBehind_145 rfl (lv_at hl 0 rfl) ?_
    refine lv_bipush (v := hz_i 47) hx hb dX5_dueBehind_146 (by decide +kernel) ?_
    obtain ⟨h9a, hw⟩ := hw
    refine hz_icmp_ne (tgt := 156) hx hb dX5_dueBehind_148 (by decide) h9a ⟨by decide, by decide⟩ (fun c_24 => ?_) (fun c_24 => ?_)
    · have hw := hw.1 c_24
      refine lv_aload_n hx hb dX5_dueBehind_156 rfl (lv_at hl 1 rfl) ?_
      refine lv_iload_n hx hb dX5_dueBehind_157 rfl (lv_at hl 0 rfl) ?_
      have hFc := cw_free hD hS hA
      obtain ⟨q9, hq9⟩ := cw_at (C := C) (z := z) (r := r) (A := A) hO_1.1 hO_1.2
      refine va_calli (va_runV (As := [.int (hz_i x2_3)]) (rest := []) ⟨hx, hb, hml, hown, hts⟩ (k_c5_dueBehindFraction l D _ C L K z r A y0 x2_3 _ hw) (cwV 1 hts gX5_dueBehind_X5_dueBehindFraction rfl rfl rfl (by decide +kernel) ⟨Nat.le_of_ble_eq_true rfl, Nat.le_of_ble_eq_true rfl⟩) ⟨hm_blind, va_recv hK hP (ci := 5) (q0 := q9) rfl hq9, hm_pre hP hK hD hE⟩ rfl rfl hl.1 rfl (lv_room (Nat.le_of_ble_eq_true rfl)) dX5_dueBehind_158 ⟨Nat.le_of_ble_eq_true rfl, Nat.le_of_ble_eq_true rfl⟩) hS (fun q _ h => hFc q h) hFc (fun rv u t H1 locs ht hvm hw hB hz1 hk1 hS => ?_)
      obtain ⟨rv_25, z_26, _, _⟩ := u
      obtain ⟨hP, hK1, hD1⟩ := hB
      rw [ht] at hP
      obtain ⟨hrv, hw⟩ := hw
      subst hrv
      have hD := hD1.weaken (fun k q _ h => hFc q.1 h)
      have hP : va_P D vwCl (cw_w C L K z_26 r A) H1 := hP
      have hD : va_D Ad (cw_w C L K z_26 r A) := hD
      generalize H1 = H at hP hS ⊢
      refine W.eq (g2 := F0 m 161 ls [.int (hz_i rv_25)]) rfl ?_
      exact L161 z_26 A rv_25 hw H locs ls hP hD hS (lv_sub hl [] rfl)
    · have hw := hw.2 c_24
      refine lv_bipush (v := hz_i 8) hx hb dX5_dueBehind_151 (by decide +kernel) ?_
      refine lv_goto (tgt := 161) hx hb dX5_dueBehind_153 (by decide) ?_
      exact L161 z A 8 hw H locs ls hP hD hS (lv_sub hl [] rfl)
  have hw := hw.2 h9c
  have h9c_27 := h9c
  by_cases h9c : y1 = 8
  · have hw := hw.1 h9c
    refine lv_tableIn (tgt := 162) (off := 153) hx hb dX5_dueBehind_9 (cw_tb1 h9a h9c (by decide)) (cw_tb2 h9a h9c (by decide)) (by rw [hz_i_toInt h9a, h9c]; decide +kernel) (by decide) ?_
    refine lv_iload_n hx hb dX5_dueBehind_162 rfl (lv_at hl 0 rfl) ?_
    refine lv_bipush (v := hz_i 48) hx hb dX5_dueBehind_163 (by decide +kernel) ?_
    obtain ⟨h9a, hw⟩ := hw
    refine hz_icmp_ne (tgt := 173) hx hb dX5_dueBehind_165 (by decide) h9a ⟨by decide, by decide⟩ (fun c_28 => ?_) (fun c_28 => ?_)
    · have hw := hw.1 c_28
      refine lv_iconst (v := hz_i 0) hx hb dX5_dueBehind_173 (by decide +kernel) ?_
      exact L174 z A 0 hw H locs ls hP hD hS (lv_sub hl [] rfl)
    · have hw := hw.2 c_28
      refine lv_bipush (v := hz_i 9) hx hb dX5_dueBehind_168 (by decide +kernel) ?_
      refine lv_goto (tgt := 174) hx hb dX5_dueBehind_170 (by decide) ?_
      exact L174 z A 9 hw H locs ls hP hD hS (lv_sub hl [] rfl)
  have hw := hw.2 h9c
  have h9c_29 := h9c
  by_cases h9c : y1 = 9
  · have hw := hw.1 h9c
    refine lv_tableIn (tgt := 175) (off := 166) hx hb dX5_dueBehind_9 (cw_tb1 h9a h9c (by decide)) (cw_tb2 h9a h9c (by decide)) (by rw [hz_i_toInt h9a, h9c]; decide +kernel) (by decide) ?_
    refine lv_aload_n hx hb dX5_dueBehind_175 rfl (lv_at hl 1 rfl) ?_
    refine lv_iload_n hx hb dX5_dueBehind_176 rfl (lv_at hl 0 rfl) ?_
    have hFc := cw_free hD hS hA
    obtain ⟨q9, hq9⟩ := cw_at (C := C) (z := z) (r := r) (A := A) hO_1.1 hO_1.2
    refine va_calli (va_runV (As := [.int (hz_i x2_3)]) (rest := []) ⟨hx, hb, hml, hown, hts⟩ (k_c5_dueBehindFraction l D _ C L K z r A y0 x2_3 _ hw) (cwV 1 hts gX5_dueBehind_X5_dueBehindFraction rfl rfl rfl (by decide +kernel) ⟨Nat.le_of_ble_eq_true rfl, Nat.le_of_ble_eq_true rfl⟩) ⟨hm_blind, va_recv hK hP (ci := 5) (q0 := q9) rfl hq9, hm_pre hP hK hD hE⟩ rfl rfl hl.1 rfl (lv_room (Nat.le_of_ble_eq_true rfl)) dX5_dueBehind_177 ⟨Nat.le_of_ble_eq_true rfl, Nat.le_of_ble_eq_true rfl⟩) hS (fun q _ h => hFc q h) hFc (fun rv u t H1 locs ht hvm hw hB hz1 hk1 hS => ?_)
    obtain ⟨rv_30, z_31, _, _⟩ := u
    obtain ⟨hP, hK1, hD1⟩ := hB
    rw [ht] at hP
    obtain ⟨hrv, hw⟩ := hw
    subst hrv
    have hD := hD1.weaken (fun k q _ h => hFc q.1 h)
    have hP : va_P D vwCl (cw_w C L K z_31 r A) H1 := hP
    have hD : va_D Ad (cw_w C L K z_31 r A) := hD
    generalize H1 = H at hP hS ⊢
    refine W.eq (g2 := F0 m 180 ls [.int (hz_i rv_30)]) rfl ?_
    subst hQQ
    subst hAe
    exact W.iret (v := hz_i rv_30) hx hb hr (fun t ht hW => ⟨⟨hz_i rv_30, (rv_30, z_31, r, A), rfl, ⟨rfl, hw⟩, by rw [ht]; exact hP, va_K.moved hW.alike hK, hD⟩, hS.F ht⟩) hS.2.2 dX5_dueBehind_180
  have hw := hw.2 h9c
  have h9c_32 := h9c
  refine lv_tableOut (tgt := 181) hx hb dX5_dueBehind_9 (tb_c5_dueBehind_9 h9a h9c_6 h9c_8 h9c_13 h9c_18 h9c_21 h9c_23 h9c_27 h9c_29 h9c_32) (by decide) ?_
  refine lv_aload_n hx hb dX5_dueBehind_181 rfl (lv_at hl 1 rfl) ?_
  refine lv_iload_n hx hb dX5_dueBehind_182 rfl (lv_at hl 0 rfl) ?_
  have hFc := cw_free hD hS hA
  obtain ⟨q9, hq9⟩ := cw_at (C := C) (z := z) (r := r) (A := A) hO_1.1 hO_1.2
  refine va_calli (va_runV (As := [.int (hz_i x2_3)]) (rest := []) ⟨hx, hb, hml, hown, hts⟩ (k_c5_dueBehindNode l D _ C L K z r A y0 x2_3 _ hw) (cwV 1 hts gX5_dueBehind_X5_dueBehindNode rfl rfl rfl (by decide +kernel) ⟨Nat.le_of_ble_eq_true rfl, Nat.le_of_ble_eq_true rfl⟩) ⟨hm_blind, va_recv hK hP (ci := 5) (q0 := q9) rfl hq9, hm_pre hP hK hD hE⟩ rfl rfl hl.1 rfl (lv_room (Nat.le_of_ble_eq_true rfl)) dX5_dueBehind_183 ⟨Nat.le_of_ble_eq_true rfl, Nat.le_of_ble_eq_true rfl⟩) hS (fun q _ h => hFc q h) hFc (fun rv u t H1 locs ht hvm hw hB hz1 hk1 hS => ?_)
  obtain ⟨rv_33, z_34, _, _⟩ := u
  obtain ⟨hP, hK1, hD1⟩ := hB
  rw [ht] at hP
  obtain ⟨hrv, hw⟩ := hw
  subst hrv
  have hD := hD1.weaken (fun k q _ h => hFc q.1 h)
  have hP : va_P D vwCl (cw_w C L K z_34 r A) H1 := hP
  have hD : va_D Ad (cw_w C L K z_34 r A) := hD
  generalize H1 = H at hP hS ⊢
  refine W.eq (g2 := F0 m 186 ls [.int (hz_i rv_33)]) rfl ?_
  subst hQQ
  subst hAe
  exact W.iret (v := hz_i rv_33) hx hb hr (fun t ht hW => ⟨⟨hz_i rv_33, (rv_33, z_34, r, A), rfl, ⟨rfl, hw⟩, by rw [ht]; exact hP, va_K.moved hW.alike hK, hD⟩, hS.F ht⟩) hS.2.2 dX5_dueBehind_186

noncomputable def wp_c5_isOne_74 (L : List Nat) (K : Nat → cw_K) (z : Nat → Nat → Int) (r : Nat → Nat → Nat) (A : Nat → Nat → Int) (t0 : Int) (Q : Int → (Nat → Nat → Int) → (Nat → Nat → Int) → Prop) : Prop := (t0 = 0 ∨ t0 = 1) ∧ Q t0 z A
noncomputable def wp_c5_isOne_73 (L : List Nat) (K : Nat → cw_K) (z : Nat → Nat → Int) (r : Nat → Nat → Nat) (A : Nat → Nat → Int) (Q : Int → (Nat → Nat → Int) → (Nat → Nat → Int) → Prop) : Prop := wp_c5_isOne_74 L K z r A 0  Q
noncomputable def wp_c5_isOne_56 (L : List Nat) (K : Nat → cw_K) (z : Nat → Nat → Int) (r : Nat → Nat → Nat) (A : Nat → Nat → Int) (y0 : Nat) (x1 : Int) (Q : Int → (Nat → Nat → Int) → (Nat → Nat → Int) → Prop) : Prop := hz_rI x1 ∧ ((¬ x1 = 10 → wp_c5_isOne_73 L K z r A  Q) ∧ (x1 = 10 → cw_O L K 5 y0 ∧ hz_rI (z y0 5) ∧ ((¬ z y0 5 = 0 → wp_c5_isOne_73 L K z r A  Q) ∧ (z y0 5 = 0 → wp_c5_isOne_74 L K z r A 1  Q))))
noncomputable def wp_c5_isOne_14 (L : List Nat) (K : Nat → cw_K) (z : Nat → Nat → Int) (r : Nat → Nat → Nat) (A : Nat → Nat → Int) (y0 : Nat) (x1 : Int) (x2 : Int) (Q : Int → (Nat → Nat → Int) → (Nat → Nat → Int) → Prop) : Prop := ∀ P14 : (Nat → Nat → Int) → (Nat → Nat → Int) → Int → Int → Prop, (∀ (z : Nat → Nat → Int) (A : Nat → Nat → Int) (x1 : Int) (x2 : Int), hz_rI x2 ∧ ((4000 < x2 → wp_c5_isOne_56 L K z r A y0 x1  Q) ∧ (¬ (4000 < x2) → cw_O L K 5 y0 ∧ cw_O L K 10 (r y0 2) ∧ hz_rI (z (r y0 2) 2) ∧ ((z (r y0 2) 2 = 0 → wp_c5_isOne_56 L K z r A y0 x1  Q) ∧ (¬ (z (r y0 2) 2 = 0) → wp_c5_dueBehind L K z r A y0 x1 (fun rv_8 z_9 A_10 => hz_rI rv_8 ∧ ((¬ rv_8 = 0 → wp_c10_advance L K z_9 r A_10 (r y0 2) (fun z_13 => ∀ x2_14 : Int, x2_14 = x2 + 1 → P14 z_13 A_10 rv_8 x2_14)) ∧ (rv_8 = 0 → Q 0 z_9 A_10))))))) → P14 z A x1 x2) → P14 z A x1 x2
noncomputable def wp_c5_isOne (L : List Nat) (K : Nat → cw_K) (z : Nat → Nat → Int) (r : Nat → Nat → Nat) (A : Nat → Nat → Int) (y0 : Nat) (Q : Int → (Nat → Nat → Int) → (Nat → Nat → Int) → Prop) : Prop := cw_O L K 5 y0 ∧ ∀ z_16 : Nat → Nat → Int, z_16 = cw_s z y0 5 0 → ∀ z_17 : Nat → Nat → Int, z_17 = cw_s z_16 y0 6 0 → wp_c5_isOne_14 L K z_17 r A y0 1 0  Q
set_option maxHeartbeats 4000000 in
set_option maxRecDepth 100000 in
theorem k_c5_isOne (l : Launch) (D : va_G) (sz : Nat) (C : Nat → ClassId) (L : List Nat) (K : Nat → cw_K) (z : Nat → Nat → Int) (r : Nat → Nat → Nat) (A : Nat → Nat → Int) (y0 : Nat) (Q : Int → (Nat → Nat → Int) → (Nat → Nat → Int) → Prop) (hw : wp_c5_isOne L K z r A y0 Q) : Met l yX5_isOne wsX5_isOne ({ frames := 2, cells := 0, slots := 0, locals := 44 } : Room) (va_Pc [.ref y0] (hm_P D (cw_w C L K z r A) (cw_t C) sz)) (va_Qi (S := Int × (Nat → Nat → Int) × (Nat → Nat → Nat) × (Nat → Nat → Int)) (fun r u => r = hz_i u.1 ∧ Q u.1 u.2.1 u.2.2.2) (fun u t => hm_B D (va_A (cw_w C L K z r A) sz) (cw_w C L K u.2.1 r u.2.2.2) (cw_t C) t) (va_A (cw_w C L K z r A) sz)) 0 0 (va_A (cw_w C L K z r A) sz) := by
  refine Met.ofW (cc := cX5_isOne) (maxL := 3) (ret := (some .boolean)) (by decide) rfl ?_
  intro p e s m args below meth c s₁ B hml hv
  obtain ⟨rfl, hsz, hP, hK, hD0, hE⟩ := hv
  have hx := B.exec
  have hb := B.bytes
  have hr := B.returns
  have hts := atoms_spec (ws := wsX5_isOne) B.pre
  have hown : s.vm.findClass RX5 = some m.cls := findClass_of_methodNamed B.named
  have hlocks := B.notSynchronized
  have hin5 : ∀ w ∈ u_ws RX5 TX5 13, w ∈ wsX5_isOne := fun w h => List.mem_cons_of_mem _ (List.mem_append_left _ (List.mem_append_right _ (h)))
  have hin10 : ∀ w ∈ u_ws RX10 TX10 6, w ∈ wsX5_isOne := fun w h => List.mem_cons_of_mem _ (List.mem_append_right _ (h))
  subst hsz
  have hD := hD0.self (sz := s.heap.size)
  generalize hAe : va_A (cw_w C L K z r A) s.heap.size = Ad at hD ⊢
  have hA : ∀ q : Nat, s.heap.size ≤ q → Ad q := fun q h => by rw [← hAe]; exact Or.inr h
  have hS : va_S Ad s.heap s.heap [] := va_S.rf
  have hl := lv_entry ([.ref y0]) (n := 3) (Nat.le_of_ble_eq_true rfl)
  rw [lg_entry_eq]
  generalize (lg_sl ([.ref y0]) ++ List.replicate (3 - (lg_sl ([.ref y0])).length) Slot.unset).toArray = ls at hl ⊢
  have hl : lv_has ls 3 [(0, .ref y0)] := hl
  refine mw_Q (fun QQ hQQ => ?_)
  have hP0 := hP; have hD0 := hD; have hS0 := hS; have hl0 := hl; have hw0 := hw
  clear hP hD hS hl hw
  have L74 : ∀ (z : Nat → Nat → Int) (A : Nat → Nat → Int) (t0 : Int), wp_c5_isOne_74 L K z r A t0  Q → ∀ (H : Heap) (locs : List Loc) (ls : Array Slot), va_P D vwCl (cw_w C L K z r A) H → va_D Ad (cw_w C L K z r A) → va_S Ad s.heap H locs → lv_has ls 3 [] → W p l e (headSpec wsX5_isOne ({ frames := 2, cells := 0, slots := 0, locals := 44 } : Room)).room s m (List.toArray [.ref y0]) below meth c H locs 0 0 QQ (F0 m 74 ls [.int (hz_i t0)]) := by
    intro z A t0 hw H locs ls hP hD hS hl
    obtain ⟨h9z, hw⟩ := hw
    subst hQQ
    subst hAe
    exact W.zret (v := hz_i t0) hx hb hr (hz_tZ h9z) (fun t ht hW => ⟨⟨hz_i t0, (t0, z, r, A), rfl, ⟨rfl, hw⟩, by rw [ht]; exact hP, va_K.moved hW.alike hK, hD⟩, hS.F ht⟩) hS.2.2 dX5_isOne_74
  have L73 : ∀ (z : Nat → Nat → Int) (A : Nat → Nat → Int), wp_c5_isOne_73 L K z r A  Q → ∀ (H : Heap) (locs : List Loc) (ls : Array Slot), va_P D vwCl (cw_w C L K z r A) H → va_D Ad (cw_w C L K z r A) → va_S Ad s.heap H locs → lv_has ls 3 [] → W p l e (headSpec wsX5_isOne ({ frames := 2, cells := 0, slots := 0, locals := 44 } : Room)).room s m (List.toArray [.ref y0]) below meth c H locs 0 0 QQ (F0 m 73 ls []) := by
    intro z A hw H locs ls hP hD hS hl
    refine lv_iconst (v := hz_i 0) hx hb dX5_isOne_73 (by decide +kernel) ?_
    exact L74 z A 0 hw H locs ls hP hD hS (lv_sub hl [] rfl)
  have L56 : ∀ (z : Nat → Nat → Int) (A : Nat → Nat → Int) (x1 : Int), wp_c5_isOne_56 L K z r A y0 x1  Q → ∀ (H : Heap) (locs : List Loc) (ls : Array Slot), va_P D vwCl (cw_w C L K z r A) H → va_D Ad (cw_w C L K z r A) → va_S Ad s.heap H locs → lv_has ls 3 [(0, .ref y0), (1, .int (hz_i x1))] → W p l e (headSpec wsX5_isOne ({ frames := 2, cells := 0, slots := 0, locals := 44 } : Room)).room s m (List.toArray [.ref y0]) below meth c H locs 0 0 QQ (F0 m 56 ls []) := by
    intro z A x1 hw H locs ls hP hD hS hl
    refine lv_iload_n hx hb dX5_isOne_56 rfl (lv_at hl 1 rfl) ?_
    refine lv_bipush (v := hz_i 10) hx hb dX5_isOne_57 (by decide +kernel) ?_
    obtain ⟨h9a, hw⟩ := hw
    refine hz_icmp_ne (tgt := 73) hx hb dX5_isOne_59 (by decide) h9a ⟨by decide, by decide⟩ (fun c_1 => ?_) (fun c_1 => ?_)
    · have hw := hw.1 c_1
      exact L73 z A hw H locs ls hP hD hS (lv_sub hl [] rfl)
    · have hw := hw.2 c_1
      refine lv_aload_n hx hb dX5_isOne_62 rfl (lv_at hl 0 rfl) ?_
      obtain ⟨hO_2, hw⟩ := hw
      refine cw_get (ci := 5) (v := .int (hz_i (z y0 5))) hx hb hts hin5 hown hK hP hO_2.1 hO_2.2 rfl 5 (by decide) (hts (.fieldLink RX5 36 "HiddenMoves$Reader" "open" "I") (List.mem_cons_of_mem _ (List.mem_append_left _ (List.mem_append_left _ (List.mem_append_left _ (List.mem_of_getElem? (i := 0) rfl)))))) (fun _ h9 => h9) rfl dX5_isOne_63 ?_
      obtain ⟨h9a, hw⟩ := hw
      refine hz_if_ne (tgt := 73) hx hb dX5_isOne_66 (by decide) h9a (fun c_3 => ?_) (fun c_3 => ?_)
      · have hw := hw.1 c_3
        exact L73 z A hw H locs ls hP hD hS (lv_sub hl [] rfl)
      · have hw := hw.2 c_3
        refine lv_iconst (v := hz_i 1) hx hb dX5_isOne_69 (by decide +kernel) ?_
        refine lv_goto (tgt := 74) hx hb dX5_isOne_70 (by decide) ?_
        exact L74 z A 1 hw H locs ls hP hD hS (lv_sub hl [] rfl)
  have L14 : ∀ (z : Nat → Nat → Int) (A : Nat → Nat → Int) (x1 : Int) (x2 : Int), wp_c5_isOne_14 L K z r A y0 x1 x2  Q → ∀ (H : Heap) (locs : List Loc) (ls : Array Slot), va_P D vwCl (cw_w C L K z r A) H → va_D Ad (cw_w C L K z r A) → va_S Ad s.heap H locs → lv_has ls 3 [(0, .ref y0), (1, .int (hz_i x1)), (2, .int (hz_i x2))] → W p l e (headSpec wsX5_isOne ({ frames := 2, cells := 0, slots := 0, locals := 44 } : Room)).room s m (List.toArray [.ref y0]) below meth c H locs 0 0 QQ (F0 m 14 ls []) := by
    intro z A x1 x2 hw
    obtain ⟨P14, hP14⟩ : ∃ P : (Nat → Nat → Int) → (Nat → Nat → Int) → Int → Int → Prop, ∀ (z : Nat → Nat → Int) (A : Nat → Nat → Int) (x1 : Int) (x2 : Int), P z A x1 x2 ↔ (∀ (H : Heap) (locs : List Loc) (ls : Array Slot), va_P D vwCl (cw_w C L K z r A) H → va_D Ad (cw_w C L K z r A) → va_S Ad s.heap H locs → lv_has ls 3 [(0, .ref y0), (1, .int (hz_i x1)), (2, .int (hz_i x2))] → W p l e (headSpec wsX5_isOne ({ frames := 2, cells := 0, slots := 0, locals := 44 } : Room)).room s m (List.toArray [.ref y0]) below meth c H locs 0 0 QQ (F0 m 14 ls [])) := ⟨fun (z : Nat → Nat → Int) (A : Nat → Nat → Int) (x1 : Int) (x2 : Int) => ∀ (H : Heap) (locs : List Loc) (ls : Array Slot), va_P D vwCl (cw_w C L K z r A) H → va_D Ad (cw_w C L K z r A) → va_S Ad s.heap H locs → lv_has ls 3 [(0, .ref y0), (1, .int (hz_i x1)), (2, .int (hz_i x2))] → W p l e (headSpec wsX5_isOne ({ frames := 2, cells := 0, slots := 0, locals := 44 } : Room)).room s m (List.toArray [.ref y0]) below meth c H locs 0 0 QQ (F0 m 14 ls []), fun _ _ _ _ => Iff.rfl⟩
    refine (hP14 z A x1 x2).mp (hw P14 ?_)
    intro z A x1 x2 hw
    refine (hP14 z A x1 x2).mpr ?_
    intro H locs ls hP hD hS hl
    refine lv_iload_n hx hb dX5_isOne_14 rfl (lv_at hl 2 rfl) ?_
    refine lv_sipush (v := hz_i 4000) hx hb dX5_isOne_15 (by decide +kernel) ?_
    obtain ⟨h9a, hw⟩ := hw
    refine hz_icmp_gt (tgt := 56) hx hb dX5_isOne_18 (by decide) h9a ⟨by decide, by decide⟩ (fun c_4 => ?_) (fun c_4 => ?_)
    · have hw := hw.1 c_4
      exact L56 z A x1 hw H locs ls hP hD hS (lv_sub hl [0, 1] rfl)
    · have hw := hw.2 c_4
      refine lv_aload_n hx hb dX5_isOne_21 rfl (lv_at hl 0 rfl) ?_
      obtain ⟨hO_5, hw⟩ := hw
      refine cw_get (ci := 5) (v := .ref (r y0 2)) hx hb hts hin5 hown hK hP hO_5.1 hO_5.2 rfl 2 (by decide) (hts (.fieldLink RX5 21 "HiddenMoves$Reader" "words" "LHiddenMoves$Words;") (List.mem_cons_of_mem _ (List.mem_append_left _ (List.mem_append_left _ (List.mem_append_left _ (List.mem_of_getElem? (i := 2) rfl)))))) (fun _ h9 => h9) rfl dX5_isOne_22 ?_
      obtain ⟨hO_6, hw⟩ := hw
      refine cw_get (ci := 10) (v := .int (hz_i (z (r y0 2) 2))) hx hb hts hin10 hown hK hP hO_6.1 hO_6.2 rfl 2 (by decide) (hts (.fieldLink RX5 88 "HiddenMoves$Words" "kind" "I") (List.mem_cons_of_mem _ (List.mem_append_left _ (List.mem_append_left _ (List.mem_append_left _ (List.mem_of_getElem? (i := 3) rfl)))))) (fun _ h9 => h9) rfl dX5_isOne_25 ?_
      obtain ⟨h9a, hw⟩ := hw
      refine hz_if_eq (tgt := 56) hx hb dX5_isOne_28 (by decide) h9a (fun c_7 => ?_) (fun c_7 => ?_)
      · have hw := hw.1 c_7
        exact L56 z A x1 hw H locs ls hP hD hS (lv_sub hl [0, 1] rfl)
      · have hw := hw.2 c_7
        refine lv_aload_n hx hb dX5_isOne_31 rfl (lv_at hl 0 rfl) ?_
        refine lv_iload_n hx hb dX5_isOne_32 rfl (lv_at hl 1 rfl) ?_
        have hFc := cw_free hD hS hA
        obtain ⟨q9, hq9⟩ := cw_at (C := C) (z := z) (r := r) (A := A) hO_5.1 hO_5.2
        refine va_calli (va_runV (As := [.int (hz_i x1)]) (rest := []) ⟨hx, hb, hml, hown, hts⟩ (k_c5_dueBehind l D _ C L K z r A y0 x1 _ hw) (cwV 1 hts gX5_isOne_X5_dueBehind rfl rfl rfl (by decide +kernel) ⟨Nat.le_of_ble_eq_true rfl, Nat.le_of_ble_eq_true rfl⟩) ⟨hm_blind, va_recv hK hP (ci := 5) (q0 := q9) rfl hq9, hm_pre hP hK hD hE⟩ rfl rfl hl.1 rfl (lv_room (Nat.le_of_ble_eq_true rfl)) dX5_isOne_33 ⟨Nat.le_of_ble_eq_true rfl, Nat.le_of_ble_eq_true rfl⟩) hS (fun q _ h => hFc q h) hFc (fun rv u t H1 locs ht hvm hw hB hz1 hk1 hS => ?_)
        obtain ⟨rv_8, z_9, _, A_10⟩ := u
        obtain ⟨hP, hK1, hD1⟩ := hB
        rw [ht] at hP
        obtain ⟨hrv, hw⟩ := hw
        subst hrv
        have hD := hD1.weaken (fun k q _ h => hFc q.1 h)
        have hP : va_P D vwCl (cw_w C L K z_9 r A_10) H1 := hP
        have hD : va_D Ad (cw_w C L K z_9 r A_10) := hD
        generalize H1 = H at hP hS ⊢
        refine W.eq (g2 := F0 m 36 ls [.int (hz_i rv_8)]) rfl ?_
        refine lv_istore_n (lv' := [(1, .int (hz_i rv_8)), (0, .ref y0), (2, .int (hz_i x2))]) hx hb dX5_isOne_36 rfl hl (by decide) rfl (fun ls hl => ?_)
        refine lv_iload_n hx hb dX5_isOne_37 rfl (lv_at hl 0 rfl) ?_
        obtain ⟨h9a, hw⟩ := hw
        refine hz_if_ne (tgt := 43) hx hb dX5_isOne_38 (by decide) h9a (fun c_11 => ?_) (fun c_11 => ?_)
        · have hw := hw.1 c_11
          refine lv_aload_n hx hb dX5_isOne_43 rfl (lv_at hl 1 rfl) ?_
          refine cw_get (ci := 5) (v := .ref (r y0 2)) hx hb hts hin5 hown hK hP hO_5.1 hO_5.2 rfl 2 (by decide) (hts (.fieldLink RX5 21 "HiddenMoves$Reader" "words" "LHiddenMoves$Words;") (List.mem_cons_of_mem _ (List.mem_append_left _ (List.mem_append_left _ (List.mem_append_left _ (List.mem_of_getElem? (i := 2) rfl)))))) (fun _ h9 => h9) rfl dX5_isOne_44 ?_
          have hFc := cw_free hD hS hA
          obtain ⟨q9, hq9⟩ := cw_at (C := C) (z := z_9) (r := r) (A := A_10) hO_6.1 hO_6.2
          refine va_callv (va_runV (As := []) (rest := []) ⟨hx, hb, hml, hown, hts⟩ (k_c10_advance l D _ C L K z_9 r A_10 (r y0 2) _ hw) (cwV 0 hts gX5_isOne_X10_advance rfl rfl rfl (by decide +kernel) ⟨Nat.le_of_ble_eq_true rfl, Nat.le_of_ble_eq_true rfl⟩) ⟨hm_blind, va_recv hK hP (ci := 10) (q0 := q9) rfl hq9, hm_pre hP hK hD hE⟩ rfl rfl hl.1 rfl (lv_room (Nat.le_of_ble_eq_true rfl)) dX5_isOne_47 ⟨Nat.le_of_ble_eq_true rfl, Nat.le_of_ble_eq_true rfl⟩) hS (fun q _ h => hFc q h) hFc (fun u t H1 locs ht hvm hw hB hz1 hk1 hS => ?_)
          obtain ⟨rv_12, z_13, _, _⟩ := u
          obtain ⟨hP, hK1, hD1⟩ := hB
          rw [ht] at hP
          have hD := hD1.weaken (fun k q _ h => hFc q.1 h)
          have hP : va_P D vwCl (cw_w C L K z_13 r A_10) H1 := hP
          have hD : va_D Ad (cw_w C L K z_13 r A_10) := hD
          generalize H1 = H at hP hS ⊢
          refine W.eq (g2 := F0 m 50 ls []) rfl ?_
          obtain ⟨x2_14, hx2_14⟩ : ∃ y : Int, y = x2 + 1 := ⟨_, rfl⟩
          have hw := hw x2_14 hx2_14
          refine lv_iinc (v := hz_i x2_14) (lv' := [(2, .int (hz_i x2_14)), (1, .int (hz_i rv_8)), (0, .ref y0)]) hx hb dX5_isOne_50 hl (k := 2) rfl (by rw [hx2_14]; exact hz_i_add _ _) (by decide) rfl (fun ls hl => ?_)
          refine lv_goto (tgt := 14) hx hb dX5_isOne_53 (by decide) ?_
          exact (hP14 z_13 A_10 rv_8 x2_14).mp hw H locs ls hP hD hS (lv_sub hl [2, 1, 0] rfl)
        · have hw := hw.2 c_11
          refine lv_iconst (v := hz_i 0) hx hb dX5_isOne_41 (by decide +kernel) ?_
          subst hQQ
          subst hAe
          exact W.zret (v := hz_i 0) hx hb hr (hz_tZ (by decide)) (fun t ht hW => ⟨⟨hz_i 0, (0, z_9, r, A_10), rfl, ⟨rfl, hw⟩, by rw [ht]; exact hP, va_K.moved hW.alike hK, hD⟩, hS.F ht⟩) hS.2.2 dX5_isOne_42
  have hP := hP0; have hD := hD0; have hS := hS0; have hl := hl0; have hw := hw0
  obtain ⟨H, hH⟩ : ∃ H : Heap, H = s.heap := ⟨_, rfl⟩
  obtain ⟨locs, hlocs⟩ : ∃ L : List Loc, L = [] := ⟨_, rfl⟩
  rw [← hH] at hP
  have hS : va_S Ad s.heap H locs := by rw [hH, hlocs]; exact hS
  refine mw_HL hH hlocs ?_
  refine lv_aload_n hx hb dX5_isOne_0 rfl (lv_at hl 0 rfl) ?_
  refine lv_iconst (v := hz_i 0) hx hb dX5_isOne_1 (by decide +kernel) ?_
  obtain ⟨hO_15, hw⟩ := hw
  refine cw_putz (ci := 5) (ty := .int) (v := .int (hz_i 0)) (x := 0) hx hb hts hin5 tyX5 tyX5_ok nmX5 hown hK hP hD hS hO_15.1 hO_15.2 rfl 5 (by decide) (hts (.fieldLink RX5 36 "HiddenMoves$Reader" "open" "I") (List.mem_cons_of_mem _ (List.mem_append_left _ (List.mem_append_left _ (List.mem_append_left _ (List.mem_of_getElem? (i := 0) rfl)))))) (fun _ h9 => h9) rfl (by decide +kernel) rfl rfl (Nat.le_of_ble_eq_true rfl) (cw_z5_5 _ _ _) dX5_isOne_2 (fun H locs hP hD hS => ?_)
  obtain ⟨z_16, hz_16⟩ : ∃ y : Nat → Nat → Int, y = cw_s z y0 5 0 := ⟨_, rfl⟩
  rw [← hz_16] at hP hD
  have hw := hw z_16 hz_16
  refine lv_aload_n hx hb dX5_isOne_5 rfl (lv_at hl 0 rfl) ?_
  refine lv_iconst (v := hz_i 0) hx hb dX5_isOne_6 (by decide +kernel) ?_
  refine cw_putz (ci := 5) (ty := .boolean) (v := .int (hz_i 0)) (x := 0) hx hb hts hin5 tyX5 tyX5_ok nmX5 hown hK hP hD hS hO_15.1 hO_15.2 rfl 6 (by decide) (hts (.fieldLink RX5 39 "HiddenMoves$Reader" "isInEnd" "Z") (List.mem_cons_of_mem _ (List.mem_append_left _ (List.mem_append_left _ (List.mem_append_left _ (List.mem_of_getElem? (i := 1) rfl)))))) (fun _ h9 => h9) rfl (by decide +kernel) (hz_tZ (by decide)) (hz_fZ (by decide)) (Nat.le_of_ble_eq_true rfl) (cw_z5_6 _ _ _) dX5_isOne_7 (fun H locs hP hD hS => ?_)
  obtain ⟨z_17, hz_17⟩ : ∃ y : Nat → Nat → Int, y = cw_s z_16 y0 6 0 := ⟨_, rfl⟩
  rw [← hz_17] at hP hD
  have hw := hw z_17 hz_17
  refine lv_iconst (v := hz_i 1) hx hb dX5_isOne_10 (by decide +kernel) ?_
  refine lv_istore_n (lv' := [(1, .int (hz_i 1)), (0, .ref y0)]) hx hb dX5_isOne_11 rfl hl (by decide) rfl (fun ls hl => ?_)
  refine lv_iconst (v := hz_i 0) hx hb dX5_isOne_12 (by decide +kernel) ?_
  refine lv_istore_n (lv' := [(2, .int (hz_i 0)), (1, .int (hz_i 1)), (0, .ref y0)]) hx hb dX5_isOne_13 rfl hl (by decide) rfl (fun ls hl => ?_)
  exact L14 z_17 A 1 0 hw H locs ls hP hD hS (lv_sub hl [2, 1, 0] rfl)

noncomputable def wp_c5_refuse (L : List Nat) (K : Nat → cw_K) (z : Nat → Nat → Int) (r : Nat → Nat → Nat) (A : Nat → Nat → Int) (y0 : Nat) (y1 : Int) (y2 : Int) (Q : Int → (Nat → Nat → Int) → Prop) : Prop := cw_O L K 5 y0 ∧ ∀ z_2 : Nat → Nat → Int, z_2 = cw_s z y0 1 y1 → ∀ z_3 : Nat → Nat → Int, z_3 = cw_s z_2 y0 0 y2 → Q 0 z_3
set_option maxHeartbeats 4000000 in
set_option maxRecDepth 100000 in
theorem k_c5_refuse (l : Launch) (D : va_G) (sz : Nat) (C : Nat → ClassId) (L : List Nat) (K : Nat → cw_K) (z : Nat → Nat → Int) (r : Nat → Nat → Nat) (A : Nat → Nat → Int) (y0 : Nat) (y1 : Int) (y2 : Int) (Q : Int → (Nat → Nat → Int) → Prop) (hw : wp_c5_refuse L K z r A y0 y1 y2 Q) : Met l yX5_refuse wsX5_refuse ({ frames := 0, cells := 0, slots := 0, locals := 0 } : Room) (va_Pc [.ref y0, .int (hz_i y1), .int (hz_i y2)] (hm_P D (cw_w C L K z r A) (cw_t C) sz)) (va_Qi (S := Int × (Nat → Nat → Int) × (Nat → Nat → Nat) × (Nat → Nat → Int)) (fun r u => r = hz_i u.1 ∧ Q u.1 u.2.1) (fun u t => hm_B D (va_A (cw_w C L K z r A) sz) (cw_w C L K u.2.1 r A) (cw_t C) t) (va_A (cw_w C L K z r A) sz)) 0 0 (va_A (cw_w C L K z r A) sz) := by
  refine Met.ofW (cc := cX5_refuse) (maxL := 3) (ret := (some .boolean)) (by decide) rfl ?_
  intro p e s m args below meth c s₁ B hml hv
  obtain ⟨rfl, hsz, hP, hK, hD0, hE⟩ := hv
  have hx := B.exec
  have hb := B.bytes
  have hr := B.returns
  have hts := atoms_spec (ws := wsX5_refuse) B.pre
  have hown : s.vm.findClass RX5 = some m.cls := findClass_of_methodNamed B.named
  have hlocks := B.notSynchronized
  have hin5 : ∀ w ∈ u_ws RX5 TX5 13, w ∈ wsX5_refuse := fun w h => List.mem_cons_of_mem _ (List.mem_append_right _ (h))
  subst hsz
  have hD := hD0.self (sz := s.heap.size)
  generalize hAe : va_A (cw_w C L K z r A) s.heap.size = Ad at hD ⊢
  have hA : ∀ q : Nat, s.heap.size ≤ q → Ad q := fun q h => by rw [← hAe]; exact Or.inr h
  have hS : va_S Ad s.heap s.heap [] := va_S.rf
  have hl := lv_entry ([.ref y0, .int (hz_i y1), .int (hz_i y2)]) (n := 3) (Nat.le_of_ble_eq_true rfl)
  rw [lg_entry_eq]
  generalize (lg_sl ([.ref y0, .int (hz_i y1), .int (hz_i y2)]) ++ List.replicate (3 - (lg_sl ([.ref y0, .int (hz_i y1), .int (hz_i y2)])).length) Slot.unset).toArray = ls at hl ⊢
  have hl : lv_has ls 3 [(0, .ref y0), (1, .int (hz_i y1)), (2, .int (hz_i y2))] := hl
  refine mw_Q (fun QQ hQQ => ?_)
  have hP0 := hP; have hD0 := hD; have hS0 := hS; have hl0 := hl; have hw0 := hw
  clear hP hD hS hl hw
  have hP := hP0; have hD := hD0; have hS := hS0; have hl := hl0; have hw := hw0
  obtain ⟨H, hH⟩ : ∃ H : Heap, H = s.heap := ⟨_, rfl⟩
  obtain ⟨locs, hlocs⟩ : ∃ L : List Loc, L = [] := ⟨_, rfl⟩
  rw [← hH] at hP
  have hS : va_S Ad s.heap H locs := by rw [hH, hlocs]; exact hS
  refine mw_HL hH hlocs ?_
  refine lv_aload_n hx hb dX5_refuse_0 rfl (lv_at hl 0 rfl) ?_
  refine lv_iload_n hx hb dX5_refuse_1 rfl (lv_at hl 1 rfl) ?_
  obtain ⟨hO_1, hw⟩ := hw
  refine cw_putz (ci := 5) (ty := .int) (v := .int (hz_i y1)) (x := y1) hx hb hts hin5 tyX5 tyX5_ok nmX5 hown hK hP hD hS hO_1.1 hO_1.2 rfl 1 (by decide) (hts (.fieldLink RX5 15 "HiddenMoves$Reader" "fault" "I") (List.mem_cons_of_mem _ (List.mem_append_left _ (List.mem_of_getElem? (i := 0) rfl)))) (fun _ h9 => h9) rfl (by decide +kernel) rfl rfl (Nat.le_of_ble_eq_true rfl) (cw_z5_1 _ _ _) dX5_refuse_2 (fun H locs hP hD hS => ?_)
  obtain ⟨z_2, hz_2⟩ : ∃ y : Nat → Nat → Int, y = cw_s z y0 1 y1 := ⟨_, rfl⟩
  rw [← hz_2] at hP hD
  have hw := hw z_2 hz_2
  refine lv_aload_n hx hb dX5_refuse_5 rfl (lv_at hl 0 rfl) ?_
  refine lv_iload_n hx hb dX5_refuse_6 rfl (lv_at hl 2 rfl) ?_
  refine cw_putz (ci := 5) (ty := .int) (v := .int (hz_i y2)) (x := y2) hx hb hts hin5 tyX5 tyX5_ok nmX5 hown hK hP hD hS hO_1.1 hO_1.2 rfl 0 (by decide) (hts (.fieldLink RX5 9 "HiddenMoves$Reader" "faultPlace" "I") (List.mem_cons_of_mem _ (List.mem_append_left _ (List.mem_of_getElem? (i := 1) rfl)))) (fun _ h9 => h9) rfl (by decide +kernel) rfl rfl (Nat.le_of_ble_eq_true rfl) (cw_z5_0 _ _ _) dX5_refuse_7 (fun H locs hP hD hS => ?_)
  obtain ⟨z_3, hz_3⟩ : ∃ y : Nat → Nat → Int, y = cw_s z_2 y0 0 y2 := ⟨_, rfl⟩
  rw [← hz_3] at hP hD
  have hw := hw z_3 hz_3
  refine lv_iconst (v := hz_i 0) hx hb dX5_refuse_10 (by decide +kernel) ?_
  subst hQQ
  subst hAe
  exact W.zret (v := hz_i 0) hx hb hr (hz_tZ (by decide)) (fun t ht hW => ⟨⟨hz_i 0, (0, z_3, r, A), rfl, ⟨rfl, hw⟩, by rw [ht]; exact hP, va_K.moved hW.alike hK, hD⟩, hS.F ht⟩) hS.2.2 dX5_refuse_11

noncomputable def wp_c5_goThroughFraction_142 (L : List Nat) (K : Nat → cw_K) (z : Nat → Nat → Int) (r : Nat → Nat → Nat) (A : Nat → Nat → Int) (y0 : Nat) (x4 : Int) (x6 : Int) (Q : Int → (Nat → Nat → Int) → Prop) : Prop := wp_c11_gcd L K z r A x4 x6 (fun rv_1 => wp_c11_quotient L K z r A x4 rv_1 (fun rv_2 => cw_O L K 5 y0 ∧ ∀ z_4 : Nat → Nat → Int, z_4 = cw_s z y0 7 rv_2 → wp_c11_quotient L K z_4 r A x6 rv_1 (fun rv_5 => ∀ z_6 : Nat → Nat → Int, z_6 = cw_s z_4 y0 8 rv_5 → Q 1 z_6)))
noncomputable def wp_c5_goThroughFraction_135 (L : List Nat) (K : Nat → cw_K) (z : Nat → Nat → Int) (r : Nat → Nat → Nat) (A : Nat → Nat → Int) (y0 : Nat) (x2 : Int) (Q : Int → (Nat → Nat → Int) → Prop) : Prop := cw_O L K 5 y0 ∧ wp_c5_refuse L K z r A y0 3 x2 (fun rv_7 z_8 => (rv_7 = 0 ∨ rv_7 = 1) ∧ Q rv_7 z_8)
noncomputable def wp_c5_goThroughFraction_109 (L : List Nat) (K : Nat → cw_K) (z : Nat → Nat → Int) (r : Nat → Nat → Nat) (A : Nat → Nat → Int) (y0 : Nat) (y1 : Int) (x2 : Int) (x4 : Int) (x6 : Int) (Q : Int → (Nat → Nat → Int) → Prop) : Prop := hz_rL x6 ∧ ((x6 = 0 → wp_c5_goThroughFraction_135 L K z r A y0 x2  Q) ∧ (¬ (x6 = 0) → hz_rI y1 ∧ ((y1 = 0 → wp_c5_goThroughFraction_142 L K z r A y0 x4 x6  Q) ∧ (¬ (y1 = 0) → hz_rL x4 ∧ ((x4 ≤ 0 → wp_c5_goThroughFraction_135 L K z r A y0 x2  Q) ∧ (¬ (x4 ≤ 0) → hz_rL x4 ∧ hz_rL x6 ∧ ((x4 ≤ x6 → wp_c5_goThroughFraction_142 L K z r A y0 x4 x6  Q) ∧ (¬ (x4 ≤ x6) → wp_c5_goThroughFraction_135 L K z r A y0 x2  Q))))))))
noncomputable def wp_c5_goThroughFraction_61 (L : List Nat) (K : Nat → cw_K) (z : Nat → Nat → Int) (r : Nat → Nat → Nat) (A : Nat → Nat → Int) (y0 : Nat) (y1 : Int) (x2 : Int) (t0 : Int) (Q : Int → (Nat → Nat → Int) → Prop) : Prop := cw_O L K 5 y0 ∧ cw_O L K 10 (r y0 2) ∧ wp_c10_advance L K z r A (r y0 2) (fun z_16 => hz_rI (z_16 (r y0 2) 2) ∧ ((¬ z_16 (r y0 2) 2 = 47 → wp_c5_goThroughFraction_109 L K z_16 r A y0 y1 x2 t0 1  Q) ∧ (z_16 (r y0 2) 2 = 47 → wp_c10_advance L K z_16 r A (r y0 2) (fun z_20 => hz_rI (z_20 (r y0 2) 4) ∧ ∀ x6_21 : Int, x6_21 = z_20 (r y0 2) 4 → wp_c10_advance L K z_20 r A (r y0 2) (fun z_23 => wp_c5_goThroughFraction_109 L K z_23 r A y0 y1 x2 t0 x6_21  Q)))))
noncomputable def wp_c5_goThroughFraction_37 (L : List Nat) (K : Nat → cw_K) (z : Nat → Nat → Int) (r : Nat → Nat → Nat) (A : Nat → Nat → Int) (y0 : Nat) (y1 : Int) (x2 : Int) (x3 : Int) (Q : Int → (Nat → Nat → Int) → Prop) : Prop := hz_rI x3 ∧ ((x3 = 0 → cw_O L K 5 y0 ∧ cw_O L K 10 (r y0 2) ∧ hz_rI (z (r y0 2) 4) ∧ wp_c5_goThroughFraction_61 L K z r A y0 y1 x2 (z (r y0 2) 4)  Q) ∧ (¬ (x3 = 0) → cw_O L K 5 y0 ∧ cw_O L K 10 (r y0 2) ∧ hz_rI (-(z (r y0 2) 4)) ∧ wp_c5_goThroughFraction_61 L K z r A y0 y1 x2 (-(z (r y0 2) 4))  Q))
noncomputable def wp_c5_goThroughFraction_25 (L : List Nat) (K : Nat → cw_K) (z : Nat → Nat → Int) (r : Nat → Nat → Nat) (A : Nat → Nat → Int) (y0 : Nat) (y1 : Int) (x2 : Int) (t0 : Int) (Q : Int → (Nat → Nat → Int) → Prop) : Prop := hz_rI t0 ∧ ((t0 = 0 → wp_c5_goThroughFraction_37 L K z r A y0 y1 x2 t0  Q) ∧ (¬ (t0 = 0) → cw_O L K 5 y0 ∧ cw_O L K 10 (r y0 2) ∧ wp_c10_advance L K z r A (r y0 2) (fun z_32 => wp_c5_goThroughFraction_37 L K z_32 r A y0 y1 x2 t0  Q)))
noncomputable def wp_c5_goThroughFraction (L : List Nat) (K : Nat → cw_K) (z : Nat → Nat → Int) (r : Nat → Nat → Nat) (A : Nat → Nat → Int) (y0 : Nat) (y1 : Int) (Q : Int → (Nat → Nat → Int) → Prop) : Prop := cw_O L K 5 y0 ∧ cw_O L K 10 (r y0 2) ∧ ∀ x2_36 : Int, x2_36 = z (r y0 2) 3 → hz_rI (z (r y0 2) 2) ∧ ((¬ z (r y0 2) 2 = 45 → wp_c5_goThroughFraction_25 L K z r A y0 y1 x2_36 0  Q) ∧ (z (r y0 2) 2 = 45 → wp_c5_goThroughFraction_25 L K z r A y0 y1 x2_36 1  Q))
set_option maxHeartbeats 4000000 in
set_option maxRecDepth 100000 in
theorem k_c5_goThroughFraction (l : Launch) (D : va_G) (sz : Nat) (C : Nat → ClassId) (L : List Nat) (K : Nat → cw_K) (z : Nat → Nat → Int) (r : Nat → Nat → Nat) (A : Nat → Nat → Int) (y0 : Nat) (y1 : Int) (Q : Int → (Nat → Nat → Int) → Prop) (hw : wp_c5_goThroughFraction L K z r A y0 y1 Q) : Met l yX5_goThroughFraction wsX5_goThroughFraction ({ frames := 2, cells := 0, slots := 0, locals := 50 } : Room) (va_Pc [.ref y0, .int (hz_i y1)] (hm_P D (cw_w C L K z r A) (cw_t C) sz)) (va_Qi (S := Int × (Nat → Nat → Int) × (Nat → Nat → Nat) × (Nat → Nat → Int)) (fun r u => r = hz_i u.1 ∧ Q u.1 u.2.1) (fun u t => hm_B D (va_A (cw_w C L K z r A) sz) (cw_w C L K u.2.1 r A) (cw_t C) t) (va_A (cw_w C L K z r A) sz)) 0 0 (va_A (cw_w C L K z r A) sz) := by
  refine Met.ofW (cc := cX5_goThroughFraction) (maxL := 10) (ret := (some .boolean)) (by decide) rfl ?_
  intro p e s m args below meth c s₁ B hml hv
  obtain ⟨rfl, hsz, hP, hK, hD0, hE⟩ := hv
  have hx := B.exec
  have hb := B.bytes
  have hr := B.returns
  have hts := atoms_spec (ws := wsX5_goThroughFraction) B.pre
  have hown : s.vm.findClass RX5 = some m.cls := findClass_of_methodNamed B.named
  have hlocks := B.notSynchronized
  have hin5 : ∀ w ∈ u_ws RX5 TX5 13, w ∈ wsX5_goThroughFraction := fun w h => List.mem_cons_of_mem _ (List.mem_append_left _ (List.mem_append_right _ (h)))
  have hin10 : ∀ w ∈ u_ws RX10 TX10 6, w ∈ wsX5_goThroughFraction := fun w h => List.mem_cons_of_mem _ (List.mem_append_right _ (h))
  subst hsz
  have hD := hD0.self (sz := s.heap.size)
  generalize hAe : va_A (cw_w C L K z r A) s.heap.size = Ad at hD ⊢
  have hA : ∀ q : Nat, s.heap.size ≤ q → Ad q := fun q h => by rw [← hAe]; exact Or.inr h
  have hS : va_S Ad s.heap s.heap [] := va_S.rf
  have hl := lv_entry ([.ref y0, .int (hz_i y1)]) (n := 10) (Nat.le_of_ble_eq_true rfl)
  rw [lg_entry_eq]
  generalize (lg_sl ([.ref y0, .int (hz_i y1)]) ++ List.replicate (10 - (lg_sl ([.ref y0, .int (hz_i y1)])).length) Slot.unset).toArray = ls at hl ⊢
  have hl : lv_has ls 10 [(0, .ref y0), (1, .int (hz_i y1))] := hl
  refine mw_Q (fun QQ hQQ => ?_)
  have hP0 := hP; have hD0 := hD; have hS0 := hS; have hl0 := hl; have hw0 := hw
  clear hP hD hS hl hw
  have L142 : ∀ (z : Nat → Nat → Int) (x4 : Int) (x6 : Int), wp_c5_goThroughFraction_142 L K z r A y0 x4 x6  Q → ∀ (H : Heap) (locs : List Loc) (ls : Array Slot), va_P D vwCl (cw_w C L K z r A) H → va_D Ad (cw_w C L K z r A) → va_S Ad s.heap H locs → lv_has ls 10 [(0, .ref y0), (4, .long (hz_l x4)), (6, .long (hz_l x6))] → W p l e (headSpec wsX5_goThroughFraction ({ frames := 2, cells := 0, slots := 0, locals := 50 } : Room)).room s m (List.toArray [.ref y0, .int (hz_i y1)]) below meth c H locs 0 0 QQ (F0 m 142 ls []) := by
    intro z x4 x6 hw H locs ls hP hD hS hl
    refine lv_lload hx hb dX5_goThroughFraction_142 (lv_at hl 1 rfl) ?_
    refine lv_lload hx hb dX5_goThroughFraction_144 (lv_at hl 2 rfl) ?_
    have hFc := cw_free hD hS hA
    refine va_calll (va_runSN (As := [.long (hz_l x4), .long (hz_l x6)]) (rest := []) ⟨hx, hb, hml, hown, hts⟩ (k_c11_gcd l D _ C L K z r A x4 x6 _ hw) ⟨va_cnB 2 hts gX5_goThroughFraction_X11_gcd_n136 rfl rfl rfl (hE.nest_RX5_136) (hts (.initialized RX11) (List.mem_cons_of_mem _ (List.mem_append_left _ (List.mem_append_left _ (List.mem_append_right _ (List.mem_of_getElem? (i := 8) rfl)))))) (by decide +kernel) ⟨Nat.le_of_ble_eq_true rfl, Nat.le_of_ble_eq_true rfl⟩, hts (.static yX11_gcd) (List.mem_cons_of_mem _ (List.mem_append_left _ (List.mem_append_left _ (List.mem_append_right _ (List.mem_of_getElem? (i := 7) rfl))))), trivial⟩ ⟨hm_blind, hm_pre hP hK hD hE⟩ rfl rfl hl.1 rfl (lv_room (Nat.le_of_ble_eq_true rfl)) dX5_goThroughFraction_146 ⟨Nat.le_of_ble_eq_true rfl, Nat.le_of_ble_eq_true rfl⟩) hS (fun q _ h => hFc q h) hFc (fun rv u t H1 locs ht hvm hw hB hz1 hk1 hS => ?_)
    obtain ⟨rv_1, _, _, _⟩ := u
    obtain ⟨hP, hK1, hD1⟩ := hB
    rw [ht] at hP
    obtain ⟨hrv, hw⟩ := hw
    subst hrv
    have hD := hD1.weaken (fun k q _ h => hFc q.1 h)
    have hP : va_P D vwCl (cw_w C L K z r A) H1 := hP
    have hD : va_D Ad (cw_w C L K z r A) := hD
    generalize H1 = H at hP hS ⊢
    refine W.eq (g2 := F0 m 149 ls [.long (hz_l rv_1)]) rfl ?_
    refine lv_lstore (lv' := [(8, .long (hz_l rv_1)), (0, .ref y0), (4, .long (hz_l x4)), (6, .long (hz_l x6))]) hx hb dX5_goThroughFraction_149 hl (by decide) rfl (fun ls hl => ?_)
    refine lv_aload_n hx hb dX5_goThroughFraction_151 rfl (lv_at hl 1 rfl) ?_
    refine lv_lload hx hb dX5_goThroughFraction_152 (lv_at hl 2 rfl) ?_
    refine lv_lload hx hb dX5_goThroughFraction_154 (lv_at hl 0 rfl) ?_
    have hFc := cw_free hD hS hA
    refine va_calll (va_runSN (As := [.long (hz_l x4), .long (hz_l rv_1)]) (rest := [.ref y0]) ⟨hx, hb, hml, hown, hts⟩ (k_c11_quotient l D _ C L K z r A x4 rv_1 _ hw) ⟨va_cnB 2 hts gX5_goThroughFraction_X11_quotient_n140 rfl rfl rfl (hE.nest_RX5_140) (hts (.initialized RX11) (List.mem_cons_of_mem _ (List.mem_append_left _ (List.mem_append_left _ (List.mem_append_right _ (List.mem_of_getElem? (i := 8) rfl)))))) (by decide +kernel) ⟨Nat.le_of_ble_eq_true rfl, Nat.le_of_ble_eq_true rfl⟩, hts (.static yX11_quotient) (List.mem_cons_of_mem _ (List.mem_append_left _ (List.mem_append_left _ (List.mem_append_right _ (List.mem_of_getElem? (i := 14) rfl))))), trivial⟩ ⟨hm_blind, hm_pre hP hK hD hE⟩ rfl rfl hl.1 rfl (lv_room (Nat.le_of_ble_eq_true rfl)) dX5_goThroughFraction_156 ⟨Nat.le_of_ble_eq_true rfl, Nat.le_of_ble_eq_true rfl⟩) hS (fun q _ h => hFc q h) hFc (fun rv u t H1 locs ht hvm hw hB hz1 hk1 hS => ?_)
    obtain ⟨rv_2, _, _, _⟩ := u
    obtain ⟨hP, hK1, hD1⟩ := hB
    rw [ht] at hP
    obtain ⟨hrv, hw⟩ := hw
    subst hrv
    have hD := hD1.weaken (fun k q _ h => hFc q.1 h)
    have hP : va_P D vwCl (cw_w C L K z r A) H1 := hP
    have hD : va_D Ad (cw_w C L K z r A) := hD
    generalize H1 = H at hP hS ⊢
    refine W.eq (g2 := F0 m 159 ls [.long (hz_l rv_2), .ref y0]) rfl ?_
    obtain ⟨hO_3, hw⟩ := hw
    refine cw_putz (ci := 5) (ty := .long) (v := .long (hz_l rv_2)) (x := rv_2) hx hb hts hin5 tyX5 tyX5_ok nmX5 hown hK hP hD hS hO_3.1 hO_3.2 rfl 7 (by decide) (hts (.fieldLink RX5 43 "HiddenMoves$Reader" "fractionTop" "J") (List.mem_cons_of_mem _ (List.mem_append_left _ (List.mem_append_left _ (List.mem_append_left _ (List.mem_of_getElem? (i := 4) rfl)))))) (fun _ h9 => h9) rfl (by decide +kernel) rfl rfl (Nat.le_of_ble_eq_true rfl) (cw_z5_7 _ _ _) dX5_goThroughFraction_159 (fun H locs hP hD hS => ?_)
    obtain ⟨z_4, hz_4⟩ : ∃ y : Nat → Nat → Int, y = cw_s z y0 7 rv_2 := ⟨_, rfl⟩
    rw [← hz_4] at hP hD
    have hw := hw z_4 hz_4
    refine lv_aload_n hx hb dX5_goThroughFraction_162 rfl (lv_at hl 1 rfl) ?_
    refine lv_lload hx hb dX5_goThroughFraction_163 (lv_at hl 3 rfl) ?_
    refine lv_lload hx hb dX5_goThroughFraction_165 (lv_at hl 0 rfl) ?_
    have hFc := cw_free hD hS hA
    refine va_calll (va_runSN (As := [.long (hz_l x6), .long (hz_l rv_1)]) (rest := [.ref y0]) ⟨hx, hb, hml, hown, hts⟩ (k_c11_quotient l D _ C L K z_4 r A x6 rv_1 _ hw) ⟨va_cnB 2 hts gX5_goThroughFraction_X11_quotient_n140 rfl rfl rfl (hE.nest_RX5_140) (hts (.initialized RX11) (List.mem_cons_of_mem _ (List.mem_append_left _ (List.mem_append_left _ (List.mem_append_right _ (List.mem_of_getElem? (i := 8) rfl)))))) (by decide +kernel) ⟨Nat.le_of_ble_eq_true rfl, Nat.le_of_ble_eq_true rfl⟩, hts (.static yX11_quotient) (List.mem_cons_of_mem _ (List.mem_append_left _ (List.mem_append_left _ (List.mem_append_right _ (List.mem_of_getElem? (i := 14) rfl))))), trivial⟩ ⟨hm_blind, hm_pre hP hK hD hE⟩ rfl rfl hl.1 rfl (lv_room (Nat.le_of_ble_eq_true rfl)) dX5_goThroughFraction_167 ⟨Nat.le_of_ble_eq_true rfl, Nat.le_of_ble_eq_true rfl⟩) hS (fun q _ h => hFc q h) hFc (fun rv u t H1 locs ht hvm hw hB hz1 hk1 hS => ?_)
    obtain ⟨rv_5, _, _, _⟩ := u
    obtain ⟨hP, hK1, hD1⟩ := hB
    rw [ht] at hP
    obtain ⟨hrv, hw⟩ := hw
    subst hrv
    have hD := hD1.weaken (fun k q _ h => hFc q.1 h)
    have hP : va_P D vwCl (cw_w C L K z_4 r A) H1 := hP
    have hD : va_D Ad (cw_w C L K z_4 r A) := hD
    generalize H1 = H at hP hS ⊢
    refine W.eq (g2 := F0 m 170 ls [.long (hz_l rv_5), .ref y0]) rfl ?_
    refine cw_putz (ci := 5) (ty := .long) (v := .long (hz_l rv_5)) (x := rv_5) hx hb hts hin5 tyX5 tyX5_ok nmX5 hown hK hP hD hS hO_3.1 hO_3.2 rfl 8 (by decide) (hts (.fieldLink RX5 47 "HiddenMoves$Reader" "fractionBottom" "J") (List.mem_cons_of_mem _ (List.mem_append_left _ (List.mem_append_left _ (List.mem_append_left _ (List.mem_of_getElem? (i := 5) rfl)))))) (fun _ h9 => h9) rfl (by decide +kernel) rfl rfl (Nat.le_of_ble_eq_true rfl) (cw_z5_8 _ _ _) dX5_goThroughFraction_170 (fun H locs hP hD hS => ?_)
    obtain ⟨z_6, hz_6⟩ : ∃ y : Nat → Nat → Int, y = cw_s z_4 y0 8 rv_5 := ⟨_, rfl⟩
    rw [← hz_6] at hP hD
    have hw := hw z_6 hz_6
    refine lv_iconst (v := hz_i 1) hx hb dX5_goThroughFraction_173 (by decide +kernel) ?_
    subst hQQ
    subst hAe
    exact W.zret (v := hz_i 1) hx hb hr (hz_tZ (by decide)) (fun t ht hW => ⟨⟨hz_i 1, (1, z_6, r, A), rfl, ⟨rfl, hw⟩, by rw [ht]; exact hP, va_K.moved hW.alike hK, hD⟩, hS.F ht⟩) hS.2.2 dX5_goThroughFraction_174
  have L135 : ∀ (z : Nat → Nat → Int) (x2 : Int), wp_c5_goThroughFraction_135 L K z r A y0 x2  Q → ∀ (H : Heap) (locs : List Loc) (ls : Array Slot), va_P D vwCl (cw_w C L K z r A) H → va_D Ad (cw_w C L K z r A) → va_S Ad s.heap H locs → lv_has ls 10 [(0, .ref y0), (2, .int (hz_i x2))] → W p l e (headSpec wsX5_goThroughFraction ({ frames := 2, cells := 0, slots := 0, locals := 50 } : Room)).room s m (List.toArray [.ref y0, .int (hz_i y1)]) below meth c H locs 0 0 QQ (F0 m 135 ls []) := by
    intro z x2 hw H locs ls hP hD hS hl
    refine lv_aload_n hx hb dX5_goThroughFraction_135 rfl (lv_at hl 0 rfl) ?_
    refine lv_iconst (v := hz_i 3) hx hb dX5_goThroughFraction_136 (by decide +kernel) ?_
    refine lv_iload_n hx hb dX5_goThroughFraction_137 rfl (lv_at hl 1 rfl) ?_
    obtain ⟨hO_9, hw⟩ := hw
    have hFc := cw_free hD hS hA
    obtain ⟨q9, hq9⟩ := cw_at (C := C) (z := z) (r := r) (A := A) hO_9.1 hO_9.2
    refine va_calli (va_runV (As := [.int (hz_i 3), .int (hz_i x2)]) (rest := []) ⟨hx, hb, hml, hown, hts⟩ (k_c5_refuse l D _ C L K z r A y0 3 x2 _ hw) (cwV 2 hts gX5_goThroughFraction_X5_refuse rfl rfl rfl (by decide +kernel) ⟨Nat.le_of_ble_eq_true rfl, Nat.le_of_ble_eq_true rfl⟩) ⟨hm_blind, va_recv hK hP (ci := 5) (q0 := q9) rfl hq9, hm_pre hP hK hD hE⟩ rfl rfl hl.1 rfl (lv_room (Nat.le_of_ble_eq_true rfl)) dX5_goThroughFraction_138 ⟨Nat.le_of_ble_eq_true rfl, Nat.le_of_ble_eq_true rfl⟩) hS (fun q _ h => hFc q h) hFc (fun rv u t H1 locs ht hvm hw hB hz1 hk1 hS => ?_)
    obtain ⟨rv_7, z_8, _, _⟩ := u
    obtain ⟨hP, hK1, hD1⟩ := hB
    rw [ht] at hP
    obtain ⟨hrv, hw⟩ := hw
    subst hrv
    have hD := hD1.weaken (fun k q _ h => hFc q.1 h)
    have hP : va_P D vwCl (cw_w C L K z_8 r A) H1 := hP
    have hD : va_D Ad (cw_w C L K z_8 r A) := hD
    generalize H1 = H at hP hS ⊢
    refine W.eq (g2 := F0 m 141 ls [.int (hz_i rv_7)]) rfl ?_
    obtain ⟨h9z, hw⟩ := hw
    subst hQQ
    subst hAe
    exact W.zret (v := hz_i rv_7) hx hb hr (hz_tZ h9z) (fun t ht hW => ⟨⟨hz_i rv_7, (rv_7, z_8, r, A), rfl, ⟨rfl, hw⟩, by rw [ht]; exact hP, va_K.moved hW.alike hK, hD⟩, hS.F ht⟩) hS.2.2 dX5_goThroughFraction_141
  have L109 : ∀ (z : Nat → Nat → Int) (x2 : Int) (x4 : Int) (x6 : Int), wp_c5_goThroughFraction_109 L K z r A y0 y1 x2 x4 x6  Q → ∀ (H : Heap) (locs : List Loc) (ls : Array Slot), va_P D vwCl (cw_w C L K z r A) H → va_D Ad (cw_w C L K z r A) → va_S Ad s.heap H locs → lv_has ls 10 [(0, .ref y0), (1, .int (hz_i y1)), (2, .int (hz_i x2)), (4, .long (hz_l x4)), (6, .long (hz_l x6))] → W p l e (headSpec wsX5_goThroughFraction ({ frames := 2, cells := 0, slots := 0, locals := 50 } : Room)).room s m (List.toArray [.ref y0, .int (hz_i y1)]) below meth c H locs 0 0 QQ (F0 m 109 ls []) := by
    intro z x2 x4 x6 hw H locs ls hP hD hS hl
    refine lv_lload hx hb dX5_goThroughFraction_109 (lv_at hl 4 rfl) ?_
    refine lv_lconst (v := hz_l 0) hx hb dX5_goThroughFraction_111 (by decide +kernel) ?_
    obtain ⟨h9a, hw⟩ := hw
    refine hz_lcmp_eq (tgt := 135) hx hb dX5_goThroughFraction_112 dX5_goThroughFraction_113 (by decide) h9a ⟨by decide, by decide⟩ (fun c_10 => ?_) (fun c_10 => ?_)
    · have hw := hw.1 c_10
      exact L135 z x2 hw H locs ls hP hD hS (lv_sub hl [0, 2] rfl)
    · have hw := hw.2 c_10
      refine lv_iload_n hx hb dX5_goThroughFraction_116 rfl (lv_at hl 1 rfl) ?_
      obtain ⟨h9a, hw⟩ := hw
      refine hz_if_eq (tgt := 142) hx hb dX5_goThroughFraction_117 (by decide) h9a (fun c_11 => ?_) (fun c_11 => ?_)
      · have hw := hw.1 c_11
        exact L142 z x4 x6 hw H locs ls hP hD hS (lv_sub hl [0, 3, 4] rfl)
      · have hw := hw.2 c_11
        refine lv_lload hx hb dX5_goThroughFraction_120 (lv_at hl 3 rfl) ?_
        refine lv_lconst (v := hz_l 0) hx hb dX5_goThroughFraction_122 (by decide +kernel) ?_
        obtain ⟨h9a, hw⟩ := hw
        refine hz_lcmp_le (tgt := 135) hx hb dX5_goThroughFraction_123 dX5_goThroughFraction_124 (by decide) h9a ⟨by decide, by decide⟩ (fun c_12 => ?_) (fun c_12 => ?_)
        · have hw := hw.1 c_12
          exact L135 z x2 hw H locs ls hP hD hS (lv_sub hl [0, 2] rfl)
        · have hw := hw.2 c_12
          refine lv_lload hx hb dX5_goThroughFraction_127 (lv_at hl 3 rfl) ?_
          refine lv_lload hx hb dX5_goThroughFraction_129 (lv_at hl 4 rfl) ?_
          obtain ⟨h9a, hw⟩ := hw
          obtain ⟨h9b, hw⟩ := hw
          refine hz_lcmp_le (tgt := 142) hx hb dX5_goThroughFraction_131 dX5_goThroughFraction_132 (by decide) h9a h9b (fun c_13 => ?_) (fun c_13 => ?_)
          · have hw := hw.1 c_13
            exact L142 z x4 x6 hw H locs ls hP hD hS (lv_sub hl [0, 3, 4] rfl)
          · have hw := hw.2 c_13
            exact L135 z x2 hw H locs ls hP hD hS (lv_sub hl [0, 2] rfl)
  have L61 : ∀ (z : Nat → Nat → Int) (x2 : Int) (t0 : Int), wp_c5_goThroughFraction_61 L K z r A y0 y1 x2 t0  Q → ∀ (H : Heap) (locs : List Loc) (ls : Array Slot), va_P D vwCl (cw_w C L K z r A) H → va_D Ad (cw_w C L K z r A) → va_S Ad s.heap H locs → lv_has ls 10 [(0, .ref y0), (1, .int (hz_i y1)), (2, .int (hz_i x2))] → W p l e (headSpec wsX5_goThroughFraction ({ frames := 2, cells := 0, slots := 0, locals := 50 } : Room)).room s m (List.toArray [.ref y0, .int (hz_i y1)]) below meth c H locs 0 0 QQ (F0 m 61 ls [.long (hz_l t0)]) := by
    intro z x2 t0 hw H locs ls hP hD hS hl
    refine lv_lstore (lv' := [(4, .long (hz_l t0)), (0, .ref y0), (1, .int (hz_i y1)), (2, .int (hz_i x2))]) hx hb dX5_goThroughFraction_61 hl (by decide) rfl (fun ls hl => ?_)
    refine lv_lconst (v := hz_l 1) hx hb dX5_goThroughFraction_63 (by decide +kernel) ?_
    refine lv_lstore (lv' := [(6, .long (hz_l 1)), (4, .long (hz_l t0)), (0, .ref y0), (1, .int (hz_i y1)), (2, .int (hz_i x2))]) hx hb dX5_goThroughFraction_64 hl (by decide) rfl (fun ls hl => ?_)
    refine lv_aload_n hx hb dX5_goThroughFraction_66 rfl (lv_at hl 2 rfl) ?_
    obtain ⟨hO_14, hw⟩ := hw
    refine cw_get (ci := 5) (v := .ref (r y0 2)) hx hb hts hin5 hown hK hP hO_14.1 hO_14.2 rfl 2 (by decide) (hts (.fieldLink RX5 21 "HiddenMoves$Reader" "words" "LHiddenMoves$Words;") (List.mem_cons_of_mem _ (List.mem_append_left _ (List.mem_append_left _ (List.mem_append_left _ (List.mem_of_getElem? (i := 0) rfl)))))) (fun _ h9 => h9) rfl dX5_goThroughFraction_67 ?_
    obtain ⟨hO_17, hw⟩ := hw
    have hFc := cw_free hD hS hA
    obtain ⟨q9, hq9⟩ := cw_at (C := C) (z := z) (r := r) (A := A) hO_17.1 hO_17.2
    refine va_callv (va_runV (As := []) (rest := []) ⟨hx, hb, hml, hown, hts⟩ (k_c10_advance l D _ C L K z r A (r y0 2) _ hw) (cwV 0 hts gX5_goThroughFraction_X10_advance rfl rfl rfl (by decide +kernel) ⟨Nat.le_of_ble_eq_true rfl, Nat.le_of_ble_eq_true rfl⟩) ⟨hm_blind, va_recv hK hP (ci := 10) (q0 := q9) rfl hq9, hm_pre hP hK hD hE⟩ rfl rfl hl.1 rfl (lv_room (Nat.le_of_ble_eq_true rfl)) dX5_goThroughFraction_70 ⟨Nat.le_of_ble_eq_true rfl, Nat.le_of_ble_eq_true rfl⟩) hS (fun q _ h => hFc q h) hFc (fun u t H1 locs ht hvm hw hB hz1 hk1 hS => ?_)
    obtain ⟨rv_15, z_16, _, _⟩ := u
    obtain ⟨hP, hK1, hD1⟩ := hB
    rw [ht] at hP
    have hD := hD1.weaken (fun k q _ h => hFc q.1 h)
    have hP : va_P D vwCl (cw_w C L K z_16 r A) H1 := hP
    have hD : va_D Ad (cw_w C L K z_16 r A) := hD
    generalize H1 = H at hP hS ⊢
    refine W.eq (g2 := F0 m 73 ls []) rfl ?_
    refine lv_aload_n hx hb dX5_goThroughFraction_73 rfl (lv_at hl 2 rfl) ?_
    refine cw_get (ci := 5) (v := .ref (r y0 2)) hx hb hts hin5 hown hK hP hO_14.1 hO_14.2 rfl 2 (by decide) (hts (.fieldLink RX5 21 "HiddenMoves$Reader" "words" "LHiddenMoves$Words;") (List.mem_cons_of_mem _ (List.mem_append_left _ (List.mem_append_left _ (List.mem_append_left _ (List.mem_of_getElem? (i := 0) rfl)))))) (fun _ h9 => h9) rfl dX5_goThroughFraction_74 ?_
    refine cw_get (ci := 10) (v := .int (hz_i (z_16 (r y0 2) 2))) hx hb hts hin10 hown hK hP hO_17.1 hO_17.2 rfl 2 (by decide) (hts (.fieldLink RX5 88 "HiddenMoves$Words" "kind" "I") (List.mem_cons_of_mem _ (List.mem_append_left _ (List.mem_append_left _ (List.mem_append_left _ (List.mem_of_getElem? (i := 2) rfl)))))) (fun _ h9 => h9) rfl dX5_goThroughFraction_77 ?_
    refine lv_bipush (v := hz_i 47) hx hb dX5_goThroughFraction_80 (by decide +kernel) ?_
    obtain ⟨h9a, hw⟩ := hw
    refine hz_icmp_ne (tgt := 109) hx hb dX5_goThroughFraction_82 (by decide) h9a ⟨by decide, by decide⟩ (fun c_18 => ?_) (fun c_18 => ?_)
    · have hw := hw.1 c_18
      exact L109 z_16 x2 t0 1 hw H locs ls hP hD hS (lv_sub hl [2, 3, 4, 1, 0] rfl)
    · have hw := hw.2 c_18
      refine lv_aload_n hx hb dX5_goThroughFraction_85 rfl (lv_at hl 2 rfl) ?_
      refine cw_get (ci := 5) (v := .ref (r y0 2)) hx hb hts hin5 hown hK hP hO_14.1 hO_14.2 rfl 2 (by decide) (hts (.fieldLink RX5 21 "HiddenMoves$Reader" "words" "LHiddenMoves$Words;") (List.mem_cons_of_mem _ (List.mem_append_left _ (List.mem_append_left _ (List.mem_append_left _ (List.mem_of_getElem? (i := 0) rfl)))))) (fun _ h9 => h9) rfl dX5_goThroughFraction_86 ?_
      have hFc := cw_free hD hS hA
      obtain ⟨q9, hq9⟩ := cw_at (C := C) (z := z_16) (r := r) (A := A) hO_17.1 hO_17.2
      refine va_callv (va_runV (As := []) (rest := []) ⟨hx, hb, hml, hown, hts⟩ (k_c10_advance l D _ C L K z_16 r A (r y0 2) _ hw) (cwV 0 hts gX5_goThroughFraction_X10_advance rfl rfl rfl (by decide +kernel) ⟨Nat.le_of_ble_eq_true rfl, Nat.le_of_ble_eq_true rfl⟩) ⟨hm_blind, va_recv hK hP (ci := 10) (q0 := q9) rfl hq9, hm_pre hP hK hD hE⟩ rfl rfl hl.1 rfl (lv_room (Nat.le_of_ble_eq_true rfl)) dX5_goThroughFraction_89 ⟨Nat.le_of_ble_eq_true rfl, Nat.le_of_ble_eq_true rfl⟩) hS (fun q _ h => hFc q h) hFc (fun u t H1 locs ht hvm hw hB hz1 hk1 hS => ?_)
      obtain ⟨rv_19, z_20, _, _⟩ := u
      obtain ⟨hP, hK1, hD1⟩ := hB
      rw [ht] at hP
      have hD := hD1.weaken (fun k q _ h => hFc q.1 h)
      have hP : va_P D vwCl (cw_w C L K z_20 r A) H1 := hP
      have hD : va_D Ad (cw_w C L K z_20 r A) := hD
      generalize H1 = H at hP hS ⊢
      refine W.eq (g2 := F0 m 92 ls []) rfl ?_
      refine lv_aload_n hx hb dX5_goThroughFraction_92 rfl (lv_at hl 2 rfl) ?_
      refine cw_get (ci := 5) (v := .ref (r y0 2)) hx hb hts hin5 hown hK hP hO_14.1 hO_14.2 rfl 2 (by decide) (hts (.fieldLink RX5 21 "HiddenMoves$Reader" "words" "LHiddenMoves$Words;") (List.mem_cons_of_mem _ (List.mem_append_left _ (List.mem_append_left _ (List.mem_append_left _ (List.mem_of_getElem? (i := 0) rfl)))))) (fun _ h9 => h9) rfl dX5_goThroughFraction_93 ?_
      refine cw_get (ci := 10) (v := .int (hz_i (z_20 (r y0 2) 4))) hx hb hts hin10 hown hK hP hO_17.1 hO_17.2 rfl 4 (by decide) (hts (.fieldLink RX5 143 "HiddenMoves$Words" "value" "I") (List.mem_cons_of_mem _ (List.mem_append_left _ (List.mem_append_left _ (List.mem_append_left _ (List.mem_of_getElem? (i := 3) rfl)))))) (fun _ h9 => h9) rfl dX5_goThroughFraction_96 ?_
      obtain ⟨h9a, hw⟩ := hw
      refine hz_wi2l hx hb dX5_goThroughFraction_99 h9a ?_
      refine hz_topl (fun x6_21 hx6_21 => ?_)
      have hw := hw x6_21 hx6_21
      refine lv_lstore (lv' := [(6, .long (hz_l x6_21)), (4, .long (hz_l t0)), (0, .ref y0), (1, .int (hz_i y1)), (2, .int (hz_i x2))]) hx hb dX5_goThroughFraction_100 hl (by decide) rfl (fun ls hl => ?_)
      refine lv_aload_n hx hb dX5_goThroughFraction_102 rfl (lv_at hl 2 rfl) ?_
      refine cw_get (ci := 5) (v := .ref (r y0 2)) hx hb hts hin5 hown hK hP hO_14.1 hO_14.2 rfl 2 (by decide) (hts (.fieldLink RX5 21 "HiddenMoves$Reader" "words" "LHiddenMoves$Words;") (List.mem_cons_of_mem _ (List.mem_append_left _ (List.mem_append_left _ (List.mem_append_left _ (List.mem_of_getElem? (i := 0) rfl)))))) (fun _ h9 => h9) rfl dX5_goThroughFraction_103 ?_
      have hFc := cw_free hD hS hA
      obtain ⟨q9, hq9⟩ := cw_at (C := C) (z := z_20) (r := r) (A := A) hO_17.1 hO_17.2
      refine va_callv (va_runV (As := []) (rest := []) ⟨hx, hb, hml, hown, hts⟩ (k_c10_advance l D _ C L K z_20 r A (r y0 2) _ hw) (cwV 0 hts gX5_goThroughFraction_X10_advance rfl rfl rfl (by decide +kernel) ⟨Nat.le_of_ble_eq_true rfl, Nat.le_of_ble_eq_true rfl⟩) ⟨hm_blind, va_recv hK hP (ci := 10) (q0 := q9) rfl hq9, hm_pre hP hK hD hE⟩ rfl rfl hl.1 rfl (lv_room (Nat.le_of_ble_eq_true rfl)) dX5_goThroughFraction_106 ⟨Nat.le_of_ble_eq_true rfl, Nat.le_of_ble_eq_true rfl⟩) hS (fun q _ h => hFc q h) hFc (fun u t H1 locs ht hvm hw hB hz1 hk1 hS => ?_)
      obtain ⟨rv_22, z_23, _, _⟩ := u
      obtain ⟨hP, hK1, hD1⟩ := hB
      rw [ht] at hP
      have hD := hD1.weaken (fun k q _ h => hFc q.1 h)
      have hP : va_P D vwCl (cw_w C L K z_23 r A) H1 := hP
      have hD : va_D Ad (cw_w C L K z_23 r A) := hD
      generalize H1 = H at hP hS ⊢
      refine W.eq (g2 := F0 m 109 ls []) rfl ?_
      exact L109 z_23 x2 t0 x6_21 hw H locs ls hP hD hS (lv_sub hl [2, 3, 4, 1, 0] rfl)
  have L37 : ∀ (z : Nat → Nat → Int) (x2 : Int) (x3 : Int), wp_c5_goThroughFraction_37 L K z r A y0 y1 x2 x3  Q → ∀ (H : Heap) (locs : List Loc) (ls : Array Slot), va_P D vwCl (cw_w C L K z r A) H → va_D Ad (cw_w C L K z r A) → va_S Ad s.heap H locs → lv_has ls 10 [(0, .ref y0), (1, .int (hz_i y1)), (2, .int (hz_i x2)), (3, .int (hz_i x3))] → W p l e (headSpec wsX5_goThroughFraction ({ frames := 2, cells := 0, slots := 0, locals := 50 } : Room)).room s m (List.toArray [.ref y0, .int (hz_i y1)]) below meth c H locs 0 0 QQ (F0 m 37 ls []) := by
    intro z x2 x3 hw H locs ls hP hD hS hl
    refine lv_iload_n hx hb dX5_goThroughFraction_37 rfl (lv_at hl 3 rfl) ?_
    obtain ⟨h9a, hw⟩ := hw
    refine hz_if_eq (tgt := 53) hx hb dX5_goThroughFraction_38 (by decide) h9a (fun c_24 => ?_) (fun c_24 => ?_)
    · have hw := hw.1 c_24
      refine lv_aload_n hx hb dX5_goThroughFraction_53 rfl (lv_at hl 0 rfl) ?_
      obtain ⟨hO_25, hw⟩ := hw
      refine cw_get (ci := 5) (v := .ref (r y0 2)) hx hb hts hin5 hown hK hP hO_25.1 hO_25.2 rfl 2 (by decide) (hts (.fieldLink RX5 21 "HiddenMoves$Reader" "words" "LHiddenMoves$Words;") (List.mem_cons_of_mem _ (List.mem_append_left _ (List.mem_append_left _ (List.mem_append_left _ (List.mem_of_getElem? (i := 0) rfl)))))) (fun _ h9 => h9) rfl dX5_goThroughFraction_54 ?_
      obtain ⟨hO_26, hw⟩ := hw
      refine cw_get (ci := 10) (v := .int (hz_i (z (r y0 2) 4))) hx hb hts hin10 hown hK hP hO_26.1 hO_26.2 rfl 4 (by decide) (hts (.fieldLink RX5 143 "HiddenMoves$Words" "value" "I") (List.mem_cons_of_mem _ (List.mem_append_left _ (List.mem_append_left _ (List.mem_append_left _ (List.mem_of_getElem? (i := 3) rfl)))))) (fun _ h9 => h9) rfl dX5_goThroughFraction_57 ?_
      obtain ⟨h9a, hw⟩ := hw
      refine hz_wi2l hx hb dX5_goThroughFraction_60 h9a ?_
      exact L61 z x2 (z (r y0 2) 4) hw H locs ls hP hD hS (lv_sub hl [0, 1, 2] rfl)
    · have hw := hw.2 c_24
      refine lv_aload_n hx hb dX5_goThroughFraction_41 rfl (lv_at hl 0 rfl) ?_
      obtain ⟨hO_27, hw⟩ := hw
      refine cw_get (ci := 5) (v := .ref (r y0 2)) hx hb hts hin5 hown hK hP hO_27.1 hO_27.2 rfl 2 (by decide) (hts (.fieldLink RX5 21 "HiddenMoves$Reader" "words" "LHiddenMoves$Words;") (List.mem_cons_of_mem _ (List.mem_append_left _ (List.mem_append_left _ (List.mem_append_left _ (List.mem_of_getElem? (i := 0) rfl)))))) (fun _ h9 => h9) rfl dX5_goThroughFraction_42 ?_
      obtain ⟨hO_28, hw⟩ := hw
      refine cw_get (ci := 10) (v := .int (hz_i (z (r y0 2) 4))) hx hb hts hin10 hown hK hP hO_28.1 hO_28.2 rfl 4 (by decide) (hts (.fieldLink RX5 143 "HiddenMoves$Words" "value" "I") (List.mem_cons_of_mem _ (List.mem_append_left _ (List.mem_append_left _ (List.mem_append_left _ (List.mem_of_getElem? (i := 3) rfl)))))) (fun _ h9 => h9) rfl dX5_goThroughFraction_45 ?_
      refine hz_ineg hx hb dX5_goThroughFraction_48 ?_
      obtain ⟨h9a, hw⟩ := hw
      refine hz_wi2l hx hb dX5_goThroughFraction_49 h9a ?_
      refine lv_goto (tgt := 61) hx hb dX5_goThroughFraction_50 (by decide) ?_
      exact L61 z x2 (-(z (r y0 2) 4)) hw H locs ls hP hD hS (lv_sub hl [0, 1, 2] rfl)
  have L25 : ∀ (z : Nat → Nat → Int) (x2 : Int) (t0 : Int), wp_c5_goThroughFraction_25 L K z r A y0 y1 x2 t0  Q → ∀ (H : Heap) (locs : List Loc) (ls : Array Slot), va_P D vwCl (cw_w C L K z r A) H → va_D Ad (cw_w C L K z r A) → va_S Ad s.heap H locs → lv_has ls 10 [(0, .ref y0), (1, .int (hz_i y1)), (2, .int (hz_i x2))] → W p l e (headSpec wsX5_goThroughFraction ({ frames := 2, cells := 0, slots := 0, locals := 50 } : Room)).room s m (List.toArray [.ref y0, .int (hz_i y1)]) below meth c H locs 0 0 QQ (F0 m 25 ls [.int (hz_i t0)]) := by
    intro z x2 t0 hw H locs ls hP hD hS hl
    refine lv_istore_n (lv' := [(3, .int (hz_i t0)), (0, .ref y0), (1, .int (hz_i y1)), (2, .int (hz_i x2))]) hx hb dX5_goThroughFraction_25 rfl hl (by decide) rfl (fun ls hl => ?_)
    refine lv_iload_n hx hb dX5_goThroughFraction_26 rfl (lv_at hl 0 rfl) ?_
    obtain ⟨h9a, hw⟩ := hw
    refine hz_if_eq (tgt := 37) hx hb dX5_goThroughFraction_27 (by decide) h9a (fun c_29 => ?_) (fun c_29 => ?_)
    · have hw := hw.1 c_29
      exact L37 z x2 t0 hw H locs ls hP hD hS (lv_sub hl [1, 2, 3, 0] rfl)
    · have hw := hw.2 c_29
      refine lv_aload_n hx hb dX5_goThroughFraction_30 rfl (lv_at hl 1 rfl) ?_
      obtain ⟨hO_30, hw⟩ := hw
      refine cw_get (ci := 5) (v := .ref (r y0 2)) hx hb hts hin5 hown hK hP hO_30.1 hO_30.2 rfl 2 (by decide) (hts (.fieldLink RX5 21 "HiddenMoves$Reader" "words" "LHiddenMoves$Words;") (List.mem_cons_of_mem _ (List.mem_append_left _ (List.mem_append_left _ (List.mem_append_left _ (List.mem_of_getElem? (i := 0) rfl)))))) (fun _ h9 => h9) rfl dX5_goThroughFraction_31 ?_
      obtain ⟨hO_33, hw⟩ := hw
      have hFc := cw_free hD hS hA
      obtain ⟨q9, hq9⟩ := cw_at (C := C) (z := z) (r := r) (A := A) hO_33.1 hO_33.2
      refine va_callv (va_runV (As := []) (rest := []) ⟨hx, hb, hml, hown, hts⟩ (k_c10_advance l D _ C L K z r A (r y0 2) _ hw) (cwV 0 hts gX5_goThroughFraction_X10_advance rfl rfl rfl (by decide +kernel) ⟨Nat.le_of_ble_eq_true rfl, Nat.le_of_ble_eq_true rfl⟩) ⟨hm_blind, va_recv hK hP (ci := 10) (q0 := q9) rfl hq9, hm_pre hP hK hD hE⟩ rfl rfl hl.1 rfl (lv_room (Nat.le_of_ble_eq_true rfl)) dX5_goThroughFraction_34 ⟨Nat.le_of_ble_eq_true rfl, Nat.le_of_ble_eq_true rfl⟩) hS (fun q _ h => hFc q h) hFc (fun u t H1 locs ht hvm hw hB hz1 hk1 hS => ?_)
      obtain ⟨rv_31, z_32, _, _⟩ := u
      obtain ⟨hP, hK1, hD1⟩ := hB
      rw [ht] at hP
      have hD := hD1.weaken (fun k q _ h => hFc q.1 h)
      have hP : va_P D vwCl (cw_w C L K z_32 r A) H1 := hP
      have hD : va_D Ad (cw_w C L K z_32 r A) := hD
      generalize H1 = H at hP hS ⊢
      refine W.eq (g2 := F0 m 37 ls []) rfl ?_
      exact L37 z_32 x2 t0 hw H locs ls hP hD hS (lv_sub hl [1, 2, 3, 0] rfl)
  have hP := hP0; have hD := hD0; have hS := hS0; have hl := hl0; have hw := hw0
  obtain ⟨H, hH⟩ : ∃ H : Heap, H = s.heap := ⟨_, rfl⟩
  obtain ⟨locs, hlocs⟩ : ∃ L : List Loc, L = [] := ⟨_, rfl⟩
  rw [← hH] at hP
  have hS : va_S Ad s.heap H locs := by rw [hH, hlocs]; exact hS
  refine mw_HL hH hlocs ?_
  refine lv_aload_n hx hb dX5_goThroughFraction_0 rfl (lv_at hl 0 rfl) ?_
  obtain ⟨hO_34, hw⟩ := hw
  refine cw_get (ci := 5) (v := .ref (r y0 2)) hx hb hts hin5 hown hK hP hO_34.1 hO_34.2 rfl 2 (by decide) (hts (.fieldLink RX5 21 "HiddenMoves$Reader" "words" "LHiddenMoves$Words;") (List.mem_cons_of_mem _ (List.mem_append_left _ (List.mem_append_left _ (List.mem_append_left _ (List.mem_of_getElem? (i := 0) rfl)))))) (fun _ h9 => h9) rfl dX5_goThroughFraction_1 ?_
  obtain ⟨hO_35, hw⟩ := hw
  refine cw_get (ci := 10) (v := .int (hz_i (z (r y0 2) 3))) hx hb hts hin10 hown hK hP hO_35.1 hO_35.2 rfl 3 (by decide) (hts (.fieldLink RX5 74 "HiddenMoves$Words" "begin" "I") (List.mem_cons_of_mem _ (List.mem_append_left _ (List.mem_append_left _ (List.mem_append_left _ (List.mem_of_getElem? (i := 1) rfl)))))) (fun _ h9 => h9) rfl dX5_goThroughFraction_4 ?_
  refine hz_topi (fun x2_36 hx2_36 => ?_)
  have hw := hw x2_36 hx2_36
  refine lv_istore_n (lv' := [(2, .int (hz_i x2_36)), (0, .ref y0), (1, .int (hz_i y1))]) hx hb dX5_goThroughFraction_7 rfl hl (by decide) rfl (fun ls hl => ?_)
  refine lv_aload_n hx hb dX5_goThroughFraction_8 rfl (lv_at hl 1 rfl) ?_
  refine cw_get (ci := 5) (v := .ref (r y0 2)) hx hb hts hin5 hown hK hP hO_34.1 hO_34.2 rfl 2 (by decide) (hts (.fieldLink RX5 21 "HiddenMoves$Reader" "words" "LHiddenMoves$Words;") (List.mem_cons_of_mem _ (List.mem_append_left _ (List.mem_append_left _ (List.mem_append_left _ (List.mem_of_getElem? (i := 0) rfl)))))) (fun _ h9 => h9) rfl dX5_goThroughFraction_9 ?_
  refine cw_get (ci := 10) (v := .int (hz_i (z (r y0 2) 2))) hx hb hts hin10 hown hK hP hO_35.1 hO_35.2 rfl 2 (by decide) (hts (.fieldLink RX5 88 "HiddenMoves$Words" "kind" "I") (List.mem_cons_of_mem _ (List.mem_append_left _ (List.mem_append_left _ (List.mem_append_left _ (List.mem_of_getElem? (i := 2) rfl)))))) (fun _ h9 => h9) rfl dX5_goThroughFraction_12 ?_
  refine lv_bipush (v := hz_i 45) hx hb dX5_goThroughFraction_15 (by decide +kernel) ?_
  obtain ⟨h9a, hw⟩ := hw
  refine hz_icmp_ne (tgt := 24) hx hb dX5_goThroughFraction_17 (by decide) h9a ⟨by decide, by decide⟩ (fun c_37 => ?_) (fun c_37 => ?_)
  · have hw := hw.1 c_37
    refine lv_iconst (v := hz_i 0) hx hb dX5_goThroughFraction_24 (by decide +kernel) ?_
    exact L25 z x2_36 0 hw H locs ls hP hD hS (lv_sub hl [1, 2, 0] rfl)
  · have hw := hw.2 c_37
    refine lv_iconst (v := hz_i 1) hx hb dX5_goThroughFraction_20 (by decide +kernel) ?_
    refine lv_goto (tgt := 25) hx hb dX5_goThroughFraction_21 (by decide) ?_
    exact L25 z x2_36 1 hw H locs ls hP hD hS (lv_sub hl [1, 2, 0] rfl)

-- 17.c07
noncomputable def wp_c5_goThroughEnd (L : List Nat) (K : Nat → cw_K) (z : Nat → Nat → Int) (r : Nat → Nat → Nat) (A : Nat → Nat → Int) (y0 : Nat) (y1 : Int) (y3 : Int) (y5 : Int) (y6 : Int) (Q : Int → (Nat → Nat → Int) → (Nat → Nat → Int) → Prop) : Prop := hz_rL y3 ∧ ((y3 < 1000000000 → cw_O L K 5 y0 ∧ cw_O L K 10 (r y0 2) ∧ wp_c10_advance L K z r A (r y0 2) (fun z_4 => wp_c5_goThroughFraction L K z_4 r A y0 0 (fun rv_6 z_7 => hz_rI rv_6 ∧ ((¬ rv_6 = 0 → wp_c10_advance L K z_7 r A (r y0 2) (fun z_10 => cw_O L K 2 (r y0 3) ∧ cw_A L K 0 (r (r y0 3) 0) ∧ ((0 : Int) ≤ 1 ∧ 1 < (cw_n K (r (r y0 3) 0) : Int)) ∧ hz_rI (A (r (r y0 3) 0) ((1 : Int).toNat)) ∧ ∀ x9_13 : Int, x9_13 = min (A (r (r y0 3) 0) ((1 : Int).toNat)) 399 → wp_c11_gcd L K z_10 r A y1 (z_10 y0 8) (fun rv_14 => wp_c11_gcd L K z_10 r A (z_10 y0 7) y3 (fun rv_15 => wp_c11_quotient L K z_10 r A y1 rv_14 (fun rv_16 => wp_c11_quotient L K z_10 r A (z_10 y0 7) rv_15 (fun rv_17 => ∀ x9_18 : Int, hz_rL x9_18 → x9_18 % 18446744073709551616 = (rv_16 * rv_17) % 18446744073709551616 → cw_A L K 1 (r y0 9) ∧ ((0 : Int) ≤ x9_13 ∧ x9_13 < (cw_n K (r y0 9) : Int)) ∧ ∀ A_20 : Nat → Nat → Int, A_20 = hz_s A (r y0 9) x9_13 x9_18 → wp_c11_quotient L K z_10 r A_20 y3 rv_15 (fun rv_21 => wp_c11_quotient L K z_10 r A_20 (z_10 y0 8) rv_14 (fun rv_22 => ∀ x9_23 : Int, hz_rL x9_23 → x9_23 % 18446744073709551616 = (rv_21 * rv_22) % 18446744073709551616 → cw_A L K 1 (r y0 10) ∧ ((0 : Int) ≤ x9_13 ∧ x9_13 < (cw_n K (r y0 10) : Int)) ∧ ∀ A_25 : Nat → Nat → Int, A_25 = hz_s A_20 (r y0 10) x9_13 x9_23 → cw_A L K 0 (r y0 11) ∧ ((0 : Int) ≤ x9_13 ∧ x9_13 < (cw_n K (r y0 11) : Int)) ∧ ∀ A_27 : Nat → Nat → Int, A_27 = hz_s A_25 (r y0 11) x9_13 y5 → cw_A L K 0 (r y0 12) ∧ ((0 : Int) ≤ x9_13 ∧ x9_13 < (cw_n K (r y0 12) : Int)) ∧ ∀ A_29 : Nat → Nat → Int, A_29 = hz_s A_27 (r y0 12) x9_13 y6 → ((0 : Int) ≤ 1 ∧ 1 < (cw_n K (r (r y0 3) 0) : Int)) ∧ ((0 : Int) ≤ 1 ∧ 1 < (cw_n K (r (r y0 3) 0) : Int)) ∧ ∀ A_30 : Nat → Nat → Int, A_30 = hz_s A_29 (r (r y0 3) 0) 1 ((A_29 (r (r y0 3) 0) ((1 : Int).toNat)) + 1) → Q 1 z_10 A_30)))))))) ∧ (rv_6 = 0 → Q 0 z_7 A))))) ∧ (¬ (y3 < 1000000000) → cw_O L K 5 y0 ∧ cw_O L K 10 (r y0 2) ∧ wp_c5_refuse L K z r A y0 6 (z (r y0 2) 3) (fun rv_33 z_34 => (rv_33 = 0 ∨ rv_33 = 1) ∧ Q rv_33 z_34 A)))
set_option maxHeartbeats 4000000 in
set_option maxRecDepth 100000 in
theorem k_c5_goThroughEnd (l : Launch) (D : va_G) (sz : Nat) (C : Nat → ClassId) (L : List Nat) (K : Nat → cw_K) (z : Nat → Nat → Int) (r : Nat → Nat → Nat) (A : Nat → Nat → Int) (y0 : Nat) (y1 : Int) (y3 : Int) (y5 : Int) (y6 : Int) (Q : Int → (Nat → Nat → Int) → (Nat → Nat → Int) → Prop) (hw : wp_c5_goThroughEnd L K z r A y0 y1 y3 y5 y6 Q) : Met l yX5_goThroughEnd wsX5_goThroughEnd ({ frames := 3, cells := 0, slots := 0, locals := 79 } : Room) (va_Pc [.ref y0, .long (hz_l y1), .long (hz_l y3), .int (hz_i y5), .int (hz_i y6)] (hm_P D (cw_w C L K z r A) (cw_t C) sz)) (va_Qi (S := Int × (Nat → Nat → Int) × (Nat → Nat → Nat) × (Nat → Nat → Int)) (fun r u => r = hz_i u.1 ∧ Q u.1 u.2.1 u.2.2.2) (fun u t => hm_B D (va_A (cw_w C L K z r A) sz) (cw_w C L K u.2.1 r u.2.2.2) (cw_t C) t) (va_A (cw_w C L K z r A) sz)) 0 0 (va_A (cw_w C L K z r A) sz) := by
  refine Met.ofW (cc := cX5_goThroughEnd) (maxL := 12) (ret := (some .boolean)) (by decide) rfl ?_
  intro p e s m args below meth c s₁ B hml hv
  obtain ⟨rfl, hsz, hP, hK, hD0, hE⟩ := hv
  have hx := B.exec
  have hb := B.bytes
  have hr := B.returns
  have hts := atoms_spec (ws := wsX5_goThroughEnd) B.pre
  have hown : s.vm.findClass RX5 = some m.cls := findClass_of_methodNamed B.named
  have hlocks := B.notSynchronized
  have hin2 : ∀ w ∈ u_ws RX2 TX2 4, w ∈ wsX5_goThroughEnd := fun w h => List.mem_cons_of_mem _ (List.mem_append_right _ (h))
  have hin5 : ∀ w ∈ u_ws RX5 TX5 13, w ∈ wsX5_goThroughEnd := fun w h => List.mem_cons_of_mem _ (List.mem_append_left _ (List.mem_append_left _ (List.mem_append_right _ (h))))
  have hin10 : ∀ w ∈ u_ws RX10 TX10 6, w ∈ wsX5_goThroughEnd := fun w h => List.mem_cons_of_mem _ (List.mem_append_left _ (List.mem_append_right _ (h)))
  subst hsz
  have hD := hD0.self (sz := s.heap.size)
  generalize hAe : va_A (cw_w C L K z r A) s.heap.size = Ad at hD ⊢
  have hA : ∀ q : Nat, s.heap.size ≤ q → Ad q := fun q h => by rw [← hAe]; exact Or.inr h
  have hS : va_S Ad s.heap s.heap [] := va_S.rf
  have hl := lv_entry ([.ref y0, .long (hz_l y1), .long (hz_l y3), .int (hz_i y5), .int (hz_i y6)]) (n := 12) (Nat.le_of_ble_eq_true rfl)
  rw [lg_entry_eq]
  generalize (lg_sl ([.ref y0, .long (hz_l y1), .long (hz_l y3), .int (hz_i y5), .int (hz_i y6)]) ++ List.replicate (12 - (lg_sl ([.ref y0, .long (hz_l y1), .long (hz_l y3), .int (hz_i y5), .int (hz_i y6)])).length) Slot.unset).toArray = ls at hl ⊢
  have hl : lv_has ls 12 [(0, .ref y0), (1, .long (hz_l y1)), (3, .long (hz_l y3)), (5, .int (hz_i y5)), (6, .int (hz_i y6))] := hl
  refine mw_Q (fun QQ hQQ => ?_)
  have hP0 := hP; have hD0 := hD; have hS0 := hS; have hl0 := hl; have hw0 := hw
  clear hP hD hS hl hw
  have hP := hP0; have hD := hD0; have hS := hS0; have hl := hl0; have hw := hw0
  obtain ⟨H, hH⟩ : ∃ H : Heap, H = s.heap := ⟨_, rfl⟩
  obtain ⟨locs, hlocs⟩ : ∃ L : List Loc, L = [] := ⟨_, rfl⟩
  rw [← hH] at hP
  have hS : va_S Ad s.heap H locs := by rw [hH, hlocs]; exact hS
  refine mw_HL hH hlocs ?_
  refine lv_lload_n hx hb dX5_goThroughEnd_0 rfl (lv_at hl 2 rfl) ?_
  refine lv_ldc2 hx hb hown (hts (.constantLong RX5 124 (1000000000)) (List.mem_cons_of_mem _ (List.mem_append_left _ (List.mem_append_left _ (List.mem_append_left _ (List.mem_append_left _ (List.mem_of_getElem? (i := 0) rfl))))))) dX5_goThroughEnd_1 ?_
  refine hz_asl (b := 1000000000) (by decide +kernel) ?_
  obtain ⟨h9a, hw⟩ := hw
  refine hz_lcmp_lt (tgt := 22) hx hb dX5_goThroughEnd_4 dX5_goThroughEnd_5 (by decide) h9a ⟨by decide, by decide⟩ (fun c_1 => ?_) (fun c_1 => ?_)
  · have hw := hw.1 c_1
    refine lv_aload_n hx hb dX5_goThroughEnd_22 rfl (lv_at hl 0 rfl) ?_
    obtain ⟨hO_2, hw⟩ := hw
    refine cw_get (ci := 5) (v := .ref (r y0 2)) hx hb hts hin5 hown hK hP hO_2.1 hO_2.2 rfl 2 (by decide) (hts (.fieldLink RX5 21 "HiddenMoves$Reader" "words" "LHiddenMoves$Words;") (List.mem_cons_of_mem _ (List.mem_append_left _ (List.mem_append_left _ (List.mem_append_left _ (List.mem_append_left _ (List.mem_of_getElem? (i := 1) rfl))))))) (fun _ h9 => h9) rfl dX5_goThroughEnd_23 ?_
    obtain ⟨hO_5, hw⟩ := hw
    have hFc := cw_free hD hS hA
    obtain ⟨q9, hq9⟩ := cw_at (C := C) (z := z) (r := r) (A := A) hO_5.1 hO_5.2
    refine va_callv (va_runV (As := []) (rest := []) ⟨hx, hb, hml, hown, hts⟩ (k_c10_advance l D _ C L K z r A (r y0 2) _ hw) (cwV 0 hts gX5_goThroughEnd_X10_advance rfl rfl rfl (by decide +kernel) ⟨Nat.le_of_ble_eq_true rfl, Nat.le_of_ble_eq_true rfl⟩) ⟨hm_blind, va_recv hK hP (ci := 10) (q0 := q9) rfl hq9, hm_pre hP hK hD hE⟩ rfl rfl hl.1 rfl (lv_room (Nat.le_of_ble_eq_true rfl)) dX5_goThroughEnd_26 ⟨Nat.le_of_ble_eq_true rfl, Nat.le_of_ble_eq_true rfl⟩) hS (fun q _ h => hFc q h) hFc (fun u t H1 locs ht hvm hw hB hz1 hk1 hS => ?_)
    obtain ⟨rv_3, z_4, _, _⟩ := u
    obtain ⟨hP, hK1, hD1⟩ := hB
    rw [ht] at hP
    have hD := hD1.weaken (fun k q _ h => hFc q.1 h)
    have hP : va_P D vwCl (cw_w C L K z_4 r A) H1 := hP
    have hD : va_D Ad (cw_w C L K z_4 r A) := hD
    generalize H1 = H at hP hS ⊢
    refine W.eq (g2 := F0 m 29 ls []) rfl ?_
    refine lv_aload_n hx hb dX5_goThroughEnd_29 rfl (lv_at hl 0 rfl) ?_
    refine lv_iconst (v := hz_i 0) hx hb dX5_goThroughEnd_30 (by decide +kernel) ?_
    have hFc := cw_free hD hS hA
    obtain ⟨q9, hq9⟩ := cw_at (C := C) (z := z_4) (r := r) (A := A) hO_2.1 hO_2.2
    refine va_calli (va_runV (As := [.int (hz_i 0)]) (rest := []) ⟨hx, hb, hml, hown, hts⟩ (k_c5_goThroughFraction l D _ C L K z_4 r A y0 0 _ hw) (cwV 1 hts gX5_goThroughEnd_X5_goThroughFraction rfl rfl rfl (by decide +kernel) ⟨Nat.le_of_ble_eq_true rfl, Nat.le_of_ble_eq_true rfl⟩) ⟨hm_blind, va_recv hK hP (ci := 5) (q0 := q9) rfl hq9, hm_pre hP hK hD hE⟩ rfl rfl hl.1 rfl (lv_room (Nat.le_of_ble_eq_true rfl)) dX5_goThroughEnd_31 ⟨Nat.le_of_ble_eq_true rfl, Nat.le_of_ble_eq_true rfl⟩) hS (fun q _ h => hFc q h) hFc (fun rv u t H1 locs ht hvm hw hB hz1 hk1 hS => ?_)
    obtain ⟨rv_6, z_7, _, _⟩ := u
    obtain ⟨hP, hK1, hD1⟩ := hB
    rw [ht] at hP
    obtain ⟨hrv, hw⟩ := hw
    subst hrv
    have hD := hD1.weaken (fun k q _ h => hFc q.1 h)
    have hP : va_P D vwCl (cw_w C L K z_7 r A) H1 := hP
    have hD : va_D Ad (cw_w C L K z_7 r A) := hD
    generalize H1 = H at hP hS ⊢
    refine W.eq (g2 := F0 m 34 ls [.int (hz_i rv_6)]) rfl ?_
    obtain ⟨h9a, hw⟩ := hw
    refine hz_if_ne (tgt := 39) hx hb dX5_goThroughEnd_34 (by decide) h9a (fun c_8 => ?_) (fun c_8 => ?_)
    · have hw := hw.1 c_8
      refine lv_aload_n hx hb dX5_goThroughEnd_39 rfl (lv_at hl 0 rfl) ?_
      refine cw_get (ci := 5) (v := .ref (r y0 2)) hx hb hts hin5 hown hK hP hO_2.1 hO_2.2 rfl 2 (by decide) (hts (.fieldLink RX5 21 "HiddenMoves$Reader" "words" "LHiddenMoves$Words;") (List.mem_cons_of_mem _ (List.mem_append_left _ (List.mem_append_left _ (List.mem_append_left _ (List.mem_append_left _ (List.mem_of_getElem? (i := 1) rfl))))))) (fun _ h9 => h9) rfl dX5_goThroughEnd_40 ?_
      have hFc := cw_free hD hS hA
      obtain ⟨q9, hq9⟩ := cw_at (C := C) (z := z_7) (r := r) (A := A) hO_5.1 hO_5.2
      refine va_callv (va_runV (As := []) (rest := []) ⟨hx, hb, hml, hown, hts⟩ (k_c10_advance l D _ C L K z_7 r A (r y0 2) _ hw) (cwV 0 hts gX5_goThroughEnd_X10_advance rfl rfl rfl (by decide +kernel) ⟨Nat.le_of_ble_eq_true rfl, Nat.le_of_ble_eq_true rfl⟩) ⟨hm_blind, va_recv hK hP (ci := 10) (q0 := q9) rfl hq9, hm_pre hP hK hD hE⟩ rfl rfl hl.1 rfl (lv_room (Nat.le_of_ble_eq_true rfl)) dX5_goThroughEnd_43 ⟨Nat.le_of_ble_eq_true rfl, Nat.le_of_ble_eq_true rfl⟩) hS (fun q _ h => hFc q h) hFc (fun u t H1 locs ht hvm hw hB hz1 hk1 hS => ?_)
      obtain ⟨rv_9, z_10, _, _⟩ := u
      obtain ⟨hP, hK1, hD1⟩ := hB
      rw [ht] at hP
      have hD := hD1.weaken (fun k q _ h => hFc q.1 h)
      have hP : va_P D vwCl (cw_w C L K z_10 r A) H1 := hP
      have hD : va_D Ad (cw_w C L K z_10 r A) := hD
      generalize H1 = H at hP hS ⊢
      refine W.eq (g2 := F0 m 46 ls []) rfl ?_
      refine lv_aload_n hx hb dX5_goThroughEnd_46 rfl (lv_at hl 0 rfl) ?_
      refine cw_get (ci := 5) (v := .ref (r y0 3)) hx hb hts hin5 hown hK hP hO_2.1 hO_2.2 rfl 3 (by decide) (hts (.fieldLink RX5 28 "HiddenMoves$Reader" "game" "LHiddenMoves$Game;") (List.mem_cons_of_mem _ (List.mem_append_left _ (List.mem_append_left _ (List.mem_append_left _ (List.mem_append_left _ (List.mem_of_getElem? (i := 3) rfl))))))) (fun _ h9 => h9) rfl dX5_goThroughEnd_47 ?_
      obtain ⟨hO_11, hw⟩ := hw
      refine cw_get (ci := 2) (v := .ref (r (r y0 3) 0)) hx hb hts hin2 hown hK hP hO_11.1 hO_11.2 rfl 0 (by decide) (hts (.fieldLink RX5 111 "HiddenMoves$Game" "counts" "[I") (List.mem_cons_of_mem _ (List.mem_append_left _ (List.mem_append_left _ (List.mem_append_left _ (List.mem_append_left _ (List.mem_of_getElem? (i := 4) rfl))))))) (fun _ h9 => h9) rfl dX5_goThroughEnd_50 ?_
      refine lv_iconst (v := hz_i 1) hx hb dX5_goThroughEnd_53 (by decide +kernel) ?_
      obtain ⟨hO_12, hw⟩ := hw
      obtain ⟨h9i, hw⟩ := hw
      refine cw_ild hx hb hK hP hO_12.1 hO_12.2.2 h9i hO_12.2.1 dX5_goThroughEnd_54 ?_
      refine lv_sipush (v := hz_i 399) hx hb dX5_goThroughEnd_55 (by decide +kernel) ?_
      obtain ⟨h9a, hw⟩ := hw
      refine cw_mmin (x := A (r (r y0 3) 0) ((1 : Int).toNat)) (y := 399) hx hb (by rw [hml]; exact hl.1.symm) hown (hts (.methodLink RX5 130 Lib.Math.min.name) (List.mem_cons_of_mem _ (List.mem_append_left _ (List.mem_append_left _ (List.mem_append_left _ (List.mem_append_left _ (List.mem_of_getElem? (i := 5) rfl))))))) (hts (.static Lib.Math.min.name) (List.mem_cons_of_mem _ (List.mem_append_left _ (List.mem_append_left _ (List.mem_append_left _ (List.mem_append_left _ (List.mem_of_getElem? (i := 6) rfl))))))) (hts (.initialized "java/lang/Math") (List.mem_cons_of_mem _ (List.mem_append_left _ (List.mem_append_left _ (List.mem_append_left _ (List.mem_append_left _ (List.mem_of_getElem? (i := 7) rfl))))))) (hts (.code Lib.Math.min.name Lib.Math.min.code 2 (some .int)) (List.mem_cons_of_mem _ (List.mem_append_left _ (List.mem_append_left _ (List.mem_append_left _ (List.mem_append_left _ (List.mem_of_getElem? (i := 8) rfl))))))) (Nat.le_of_ble_eq_true rfl) (Nat.le_of_ble_eq_true rfl) (Nat.zero_le _) (Nat.zero_le _) dX5_goThroughEnd_58 h9a ⟨by decide, by decide⟩ (fun x9_13 hx9_13 => ?_)
      have hw := hw x9_13 hx9_13
      refine lv_istore (lv' := [(7, .int (hz_i x9_13)), (0, .ref y0), (1, .long (hz_l y1)), (3, .long (hz_l y3)), (5, .int (hz_i y5)), (6, .int (hz_i y6))]) hx hb dX5_goThroughEnd_61 hl (by decide) rfl (fun ls hl => ?_)
      refine lv_lload_n hx hb dX5_goThroughEnd_63 rfl (lv_at hl 2 rfl) ?_
      refine lv_aload_n hx hb dX5_goThroughEnd_64 rfl (lv_at hl 1 rfl) ?_
      refine cw_get (ci := 5) (v := .long (hz_l (z_10 y0 8))) hx hb hts hin5 hown hK hP hO_2.1 hO_2.2 rfl 8 (by decide) (hts (.fieldLink RX5 47 "HiddenMoves$Reader" "fractionBottom" "J") (List.mem_cons_of_mem _ (List.mem_append_left _ (List.mem_append_left _ (List.mem_append_left _ (List.mem_append_left _ (List.mem_of_getElem? (i := 9) rfl))))))) (fun _ h9 => h9) rfl dX5_goThroughEnd_65 ?_
      have hFc := cw_free hD hS hA
      refine va_calll (va_runSN (As := [.long (hz_l y1), .long (hz_l (z_10 y0 8))]) (rest := []) ⟨hx, hb, hml, hown, hts⟩ (k_c11_gcd l D _ C L K z_10 r A y1 (z_10 y0 8) _ hw) ⟨va_cnB 2 hts gX5_goThroughEnd_X11_gcd_n136 rfl rfl rfl (hE.nest_RX5_136) (hts (.initialized RX11) (List.mem_cons_of_mem _ (List.mem_append_left _ (List.mem_append_left _ (List.mem_append_left _ (List.mem_append_right _ (List.mem_append_left _ (List.mem_of_getElem? (i := 23) rfl)))))))) (by decide +kernel) ⟨Nat.le_of_ble_eq_true rfl, Nat.le_of_ble_eq_true rfl⟩, hts (.static yX11_gcd) (List.mem_cons_of_mem _ (List.mem_append_left _ (List.mem_append_left _ (List.mem_append_left _ (List.mem_append_right _ (List.mem_append_left _ (List.mem_of_getElem? (i := 22) rfl))))))), trivial⟩ ⟨hm_blind, hm_pre hP hK hD hE⟩ rfl rfl hl.1 rfl (lv_room (Nat.le_of_ble_eq_true rfl)) dX5_goThroughEnd_68 ⟨Nat.le_of_ble_eq_true rfl, Nat.le_of_ble_eq_true rfl⟩) hS (fun q _ h => hFc q h) hFc (fun rv u t H1 locs ht hvm hw hB hz1 hk1 hS => ?_)
      obtain ⟨rv_14, _, _, _⟩ := u
      obtain ⟨hP, hK1, hD1⟩ := hB
      rw [ht] at hP
      obtain ⟨hrv, hw⟩ := hw
      subst hrv
      have hD := hD1.weaken (fun k q _ h => hFc q.1 h)
      have hP : va_P D vwCl (cw_w C L K z_10 r A) H1 := hP
      have hD : va_D Ad (cw_w C L K z_10 r A) := hD
      generalize H1 = H at hP hS ⊢
      refine W.eq (g2 := F0 m 71 ls [.long (hz_l rv_14)]) rfl ?_
      refine lv_lstore (lv' := [(8, .long (hz_l rv_14)), (7, .int (hz_i x9_13)), (0, .ref y0), (1, .long (hz_l y1)), (3, .long (hz_l y3)), (5, .int (hz_i y5)), (6, .int (hz_i y6))]) hx hb dX5_goThroughEnd_71 hl (by decide) rfl (fun ls hl => ?_)
      refine lv_aload_n hx hb dX5_goThroughEnd_73 rfl (lv_at hl 2 rfl) ?_
      refine cw_get (ci := 5) (v := .long (hz_l (z_10 y0 7))) hx hb hts hin5 hown hK hP hO_2.1 hO_2.2 rfl 7 (by decide) (hts (.fieldLink RX5 43 "HiddenMoves$Reader" "fractionTop" "J") (List.mem_cons_of_mem _ (List.mem_append_left _ (List.mem_append_left _ (List.mem_append_left _ (List.mem_append_left _ (List.mem_of_getElem? (i := 10) rfl))))))) (fun _ h9 => h9) rfl dX5_goThroughEnd_74 ?_
      refine lv_lload_n hx hb dX5_goThroughEnd_77 rfl (lv_at hl 4 rfl) ?_
      have hFc := cw_free hD hS hA
      refine va_calll (va_runSN (As := [.long (hz_l (z_10 y0 7)), .long (hz_l y3)]) (rest := []) ⟨hx, hb, hml, hown, hts⟩ (k_c11_gcd l D _ C L K z_10 r A (z_10 y0 7) y3 _ hw) ⟨va_cnB 2 hts gX5_goThroughEnd_X11_gcd_n136 rfl rfl rfl (hE.nest_RX5_136) (hts (.initialized RX11) (List.mem_cons_of_mem _ (List.mem_append_left _ (List.mem_append_left _ (List.mem_append_left _ (List.mem_append_right _ (List.mem_append_left _ (List.mem_of_getElem? (i := 23) rfl)))))))) (by decide +kernel) ⟨Nat.le_of_ble_eq_true rfl, Nat.le_of_ble_eq_true rfl⟩, hts (.static yX11_gcd) (List.mem_cons_of_mem _ (List.mem_append_left _ (List.mem_append_left _ (List.mem_append_left _ (List.mem_append_right _ (List.mem_append_left _ (List.mem_of_getElem? (i := 22) rfl))))))), trivial⟩ ⟨hm_blind, hm_pre hP hK hD hE⟩ rfl rfl hl.1 rfl (lv_room (Nat.le_of_ble_eq_true rfl)) dX5_goThroughEnd_78 ⟨Nat.le_of_ble_eq_true rfl, Nat.le_of_ble_eq_true rfl⟩) hS (fun q _ h => hFc q h) hFc (fun rv u t H1 locs ht hvm hw hB hz1 hk1 hS => ?_)
      obtain ⟨rv_15, _, _, _⟩ := u
      obtain ⟨hP, hK1, hD1⟩ := hB
      rw [ht] at hP
      obtain ⟨hrv, hw⟩ := hw
      subst hrv
      have hD := hD1.weaken (fun k q _ h => hFc q.1 h)
      have hP : va_P D vwCl (cw_w C L K z_10 r A) H1 := hP
      have hD : va_D Ad (cw_w C L K z_10 r A) := hD
      generalize H1 = H at hP hS ⊢
      refine W.eq (g2 := F0 m 81 ls [.long (hz_l rv_15)]) rfl ?_
      refine lv_lstore (lv' := [(10, .long (hz_l rv_15)), (8, .long (hz_l rv_14)), (7, .int (hz_i x9_13)), (0, .ref y0), (1, .long (hz_l y1)), (3, .long (hz_l y3)), (5, .int (hz_i y5)), (6, .int (hz_i y6))]) hx hb dX5_goThroughEnd_81 hl (by decide) rfl (fun ls hl => ?_)
      refine lv_aload_n hx hb dX5_goThroughEnd_83 rfl (lv_at hl 3 rfl) ?_
      refine cw_get (ci := 5) (v := .ref (r y0 9)) hx hb hts hin5 hown hK hP hO_2.1 hO_2.2 rfl 9 (by decide) (hts (.fieldLink RX5 50 "HiddenMoves$Reader" "endTops" "[J") (List.mem_cons_of_mem _ (List.mem_append_left _ (List.mem_append_left _ (List.mem_append_left _ (List.mem_append_left _ (List.mem_of_getElem? (i := 11) rfl))))))) (fun _ h9 => h9) rfl dX5_goThroughEnd_84 ?_
      refine lv_iload hx hb dX5_goThroughEnd_87 (lv_at hl 2 rfl) ?_
      refine lv_lload_n hx hb dX5_goThroughEnd_89 rfl (lv_at hl 4 rfl) ?_
      refine lv_lload hx hb dX5_goThroughEnd_90 (lv_at hl 1 rfl) ?_
      have hFc := cw_free hD hS hA
      refine va_calll (va_runSN (As := [.long (hz_l y1), .long (hz_l rv_14)]) (rest := [.int (hz_i x9_13), .ref (r y0 9)]) ⟨hx, hb, hml, hown, hts⟩ (k_c11_quotient l D _ C L K z_10 r A y1 rv_14 _ hw) ⟨va_cnB 2 hts gX5_goThroughEnd_X11_quotient_n140 rfl rfl rfl (hE.nest_RX5_140) (hts (.initialized RX11) (List.mem_cons_of_mem _ (List.mem_append_left _ (List.mem_append_left _ (List.mem_append_left _ (List.mem_append_right _ (List.mem_append_left _ (List.mem_of_getElem? (i := 23) rfl)))))))) (by decide +kernel) ⟨Nat.le_of_ble_eq_true rfl, Nat.le_of_ble_eq_true rfl⟩, hts (.static yX11_quotient) (List.mem_cons_of_mem _ (List.mem_append_left _ (List.mem_append_left _ (List.mem_append_left _ (List.mem_append_right _ (List.mem_append_right _ (List.mem_of_getElem? (i := 4) rfl))))))), trivial⟩ ⟨hm_blind, hm_pre hP hK hD hE⟩ rfl rfl hl.1 rfl (lv_room (Nat.le_of_ble_eq_true rfl)) dX5_goThroughEnd_92 ⟨Nat.le_of_ble_eq_true rfl, Nat.le_of_ble_eq_true rfl⟩) hS (fun q _ h => hFc q h) hFc (fun rv u t H1 locs ht hvm hw hB hz1 hk1 hS => ?_)
      obtain ⟨rv_16, _, _, _⟩ := u
      obtain ⟨hP, hK1, hD1⟩ := hB
      rw [ht] at hP
      obtain ⟨hrv, hw⟩ := hw
      subst hrv
      have hD := hD1.weaken (fun k q _ h => hFc q.1 h)
      have hP : va_P D vwCl (cw_w C L K z_10 r A) H1 := hP
      have hD : va_D Ad (cw_w C L K z_10 r A) := hD
      generalize H1 = H at hP hS ⊢
      refine W.eq (g2 := F0 m 95 ls [.long (hz_l rv_16), .int (hz_i x9_13), .ref (r y0 9)]) rfl ?_
      refine lv_aload_n hx hb dX5_goThroughEnd_95 rfl (lv_at hl 3 rfl) ?_
      refine cw_get (ci := 5) (v := .long (hz_l (z_10 y0 7))) hx hb hts hin5 hown hK hP hO_2.1 hO_2.2 rfl 7 (by decide) (hts (.fieldLink RX5 43 "HiddenMoves$Reader" "fractionTop" "J") (List.mem_cons_of_mem _ (List.mem_append_left _ (List.mem_append_left _ (List.mem_append_left _ (List.mem_append_left _ (List.mem_of_getElem? (i := 10) rfl))))))) (fun _ h9 => h9) rfl dX5_goThroughEnd_96 ?_
      refine lv_lload hx hb dX5_goThroughEnd_99 (lv_at hl 0 rfl) ?_
      have hFc := cw_free hD hS hA
      refine va_calll (va_runSN (As := [.long (hz_l (z_10 y0 7)), .long (hz_l rv_15)]) (rest := [.long (hz_l rv_16), .int (hz_i x9_13), .ref (r y0 9)]) ⟨hx, hb, hml, hown, hts⟩ (k_c11_quotient l D _ C L K z_10 r A (z_10 y0 7) rv_15 _ hw) ⟨va_cnB 2 hts gX5_goThroughEnd_X11_quotient_n140 rfl rfl rfl (hE.nest_RX5_140) (hts (.initialized RX11) (List.mem_cons_of_mem _ (List.mem_append_left _ (List.mem_append_left _ (List.mem_append_left _ (List.mem_append_right _ (List.mem_append_left _ (List.mem_of_getElem? (i := 23) rfl)))))))) (by decide +kernel) ⟨Nat.le_of_ble_eq_true rfl, Nat.le_of_ble_eq_true rfl⟩, hts (.static yX11_quotient) (List.mem_cons_of_mem _ (List.mem_append_left _ (List.mem_append_left _ (List.mem_append_left _ (List.mem_append_right _ (List.mem_append_right _ (List.mem_of_getElem? (i := 4) rfl))))))), trivial⟩ ⟨hm_blind, hm_pre hP hK hD hE⟩ rfl rfl hl.1 rfl (lv_room (Nat.le_of_ble_eq_true rfl)) dX5_goThroughEnd_101 ⟨Nat.le_of_ble_eq_true rfl, Nat.le_of_ble_eq_true rfl⟩) hS (fun q _ h => hFc q h) hFc (fun rv u t H1 locs ht hvm hw hB hz1 hk1 hS => ?_)
      obtain ⟨rv_17, _, _, _⟩ := u
      obtain ⟨hP, hK1, hD1⟩ := hB
      rw [ht] at hP
      obtain ⟨hrv, hw⟩ := hw
      subst hrv
      have hD := hD1.weaken (fun k q _ h => hFc q.1 h)
      have hP : va_P D vwCl (cw_w C L K z_10 r A) H1 := hP
      have hD : va_D Ad (cw_w C L K z_10 r A) := hD
      generalize H1 = H at hP hS ⊢
      refine W.eq (g2 := F0 m 104 ls [.long (hz_l rv_17), .long (hz_l rv_16), .int (hz_i x9_13), .ref (r y0 9)]) rfl ?_
      refine hz_lmul hx hb dX5_goThroughEnd_104 ?_
      refine cw_nrl (fun x9_18 hx9_18a hx9_18b => ?_)
      have hw := hw x9_18 hx9_18a hx9_18b
      obtain ⟨hO_19, hw⟩ := hw
      obtain ⟨h9i, hw⟩ := hw
      refine cw_lst (v := x9_18) hx hb hK hP hD hS hO_19.1 hO_19.2.2 h9i hO_19.2.1 dX5_goThroughEnd_105 (fun H locs hP hD hS => ?_)
      obtain ⟨A_20, hA_20⟩ : ∃ y : Nat → Nat → Int, y = hz_s A (r y0 9) x9_13 x9_18 := ⟨_, rfl⟩
      rw [← hA_20] at hP hD
      have hw := hw A_20 hA_20
      refine lv_aload_n hx hb dX5_goThroughEnd_106 rfl (lv_at hl 3 rfl) ?_
      refine cw_get (ci := 5) (v := .ref (r y0 10)) hx hb hts hin5 hown hK hP hO_2.1 hO_2.2 rfl 10 (by decide) (hts (.fieldLink RX5 54 "HiddenMoves$Reader" "endBottoms" "[J") (List.mem_cons_of_mem _ (List.mem_append_left _ (List.mem_append_left _ (List.mem_append_left _ (List.mem_append_left _ (List.mem_of_getElem? (i := 12) rfl))))))) (fun _ h9 => h9) rfl dX5_goThroughEnd_107 ?_
      refine lv_iload hx hb dX5_goThroughEnd_110 (lv_at hl 2 rfl) ?_
      refine lv_lload_n hx hb dX5_goThroughEnd_112 rfl (lv_at hl 5 rfl) ?_
      refine lv_lload hx hb dX5_goThroughEnd_113 (lv_at hl 0 rfl) ?_
      have hFc := cw_free hD hS hA
      refine va_calll (va_runSN (As := [.long (hz_l y3), .long (hz_l rv_15)]) (rest := [.int (hz_i x9_13), .ref (r y0 10)]) ⟨hx, hb, hml, hown, hts⟩ (k_c11_quotient l D _ C L K z_10 r A_20 y3 rv_15 _ hw) ⟨va_cnB 2 hts gX5_goThroughEnd_X11_quotient_n140 rfl rfl rfl (hE.nest_RX5_140) (hts (.initialized RX11) (List.mem_cons_of_mem _ (List.mem_append_left _ (List.mem_append_left _ (List.mem_append_left _ (List.mem_append_right _ (List.mem_append_left _ (List.mem_of_getElem? (i := 23) rfl)))))))) (by decide +kernel) ⟨Nat.le_of_ble_eq_true rfl, Nat.le_of_ble_eq_true rfl⟩, hts (.static yX11_quotient) (List.mem_cons_of_mem _ (List.mem_append_left _ (List.mem_append_left _ (List.mem_append_left _ (List.mem_append_right _ (List.mem_append_right _ (List.mem_of_getElem? (i := 4) rfl))))))), trivial⟩ ⟨hm_blind, hm_pre hP hK hD hE⟩ rfl rfl hl.1 rfl (lv_room (Nat.le_of_ble_eq_true rfl)) dX5_goThroughEnd_115 ⟨Nat.le_of_ble_eq_true rfl, Nat.le_of_ble_eq_true rfl⟩) hS (fun q _ h => hFc q h) hFc (fun rv u t H1 locs ht hvm hw hB hz1 hk1 hS => ?_)
      obtain ⟨rv_21, _, _, _⟩ := u
      obtain ⟨hP, hK1, hD1⟩ := hB
      rw [ht] at hP
      obtain ⟨hrv, hw⟩ := hw
      subst hrv
      have hD := hD1.weaken (fun k q _ h => hFc q.1 h)
      have hP : va_P D vwCl (cw_w C L K z_10 r A_20) H1 := hP
      have hD : va_D Ad (cw_w C L K z_10 r A_20) := hD
      generalize H1 = H at hP hS ⊢
      refine W.eq (g2 := F0 m 118 ls [.long (hz_l rv_21), .int (hz_i x9_13), .ref (r y0 10)]) rfl ?_
      refine lv_aload_n hx hb dX5_goThroughEnd_118 rfl (lv_at hl 3 rfl) ?_
      refine cw_get (ci := 5) (v := .long (hz_l (z_10 y0 8))) hx hb hts hin5 hown hK hP hO_2.1 hO_2.2 rfl 8 (by decide) (hts (.fieldLink RX5 47 "HiddenMoves$Reader" "fractionBottom" "J") (List.mem_cons_of_mem _ (List.mem_append_left _ (List.mem_append_left _ (List.mem_append_left _ (List.mem_append_left _ (List.mem_of_getElem? (i := 9) rfl))))))) (fun _ h9 => h9) rfl dX5_goThroughEnd_119 ?_
      refine lv_lload hx hb dX5_goThroughEnd_122 (lv_at hl 1 rfl) ?_
      have hFc := cw_free hD hS hA
      refine va_calll (va_runSN (As := [.long (hz_l (z_10 y0 8)), .long (hz_l rv_14)]) (rest := [.long (hz_l rv_21), .int (hz_i x9_13), .ref (r y0 10)]) ⟨hx, hb, hml, hown, hts⟩ (k_c11_quotient l D _ C L K z_10 r A_20 (z_10 y0 8) rv_14 _ hw) ⟨va_cnB 2 hts gX5_goThroughEnd_X11_quotient_n140 rfl rfl rfl (hE.nest_RX5_140) (hts (.initialized RX11) (List.mem_cons_of_mem _ (List.mem_append_left _ (List.mem_append_left _ (List.mem_append_left _ (List.mem_append_right _ (List.mem_append_left _ (List.mem_of_getElem? (i := 23) rfl)))))))) (by decide +kernel) ⟨Nat.le_of_ble_eq_true rfl, Nat.le_of_ble_eq_true rfl⟩, hts (.static yX11_quotient) (List.mem_cons_of_mem _ (List.mem_append_left _ (List.mem_append_left _ (List.mem_append_left _ (List.mem_append_right _ (List.mem_append_right _ (List.mem_of_getElem? (i := 4) rfl))))))), trivial⟩ ⟨hm_blind, hm_pre hP hK hD hE⟩ rfl rfl hl.1 rfl (lv_room (Nat.le_of_ble_eq_true rfl)) dX5_goThroughEnd_124 ⟨Nat.le_of_ble_eq_true rfl, Nat.le_of_ble_eq_true rfl⟩) hS (fun q _ h => hFc q h) hFc (fun rv u t H1 locs ht hvm hw hB hz1 hk1 hS => ?_)
      obtain ⟨rv_22, _, _, _⟩ := u
      obtain ⟨hP, hK1, hD1⟩ := hB
      rw [ht] at hP
      obtain ⟨hrv, hw⟩ := hw
      subst hrv
      have hD := hD1.weaken (fun k q _ h => hFc q.1 h)
      have hP : va_P D vwCl (cw_w C L K z_10 r A_20) H1 := hP
      have hD : va_D Ad (cw_w C L K z_10 r A_20) := hD
      generalize H1 = H at hP hS ⊢
      refine W.eq (g2 := F0 m 127 ls [.long (hz_l rv_22), .long (hz_l rv_21), .int (hz_i x9_13), .ref (r y0 10)]) rfl ?_
      refine hz_lmul hx hb dX5_goThroughEnd_127 ?_
      refine cw_nrl (fun x9_23 hx9_23a hx9_23b => ?_)
      have hw := hw x9_23 hx9_23a hx9_23b
      obtain ⟨hO_24, hw⟩ := hw
      obtain ⟨h9i, hw⟩ := hw
      refine cw_lst (v := x9_23) hx hb hK hP hD hS hO_24.1 hO_24.2.2 h9i hO_24.2.1 dX5_goThroughEnd_128 (fun H locs hP hD hS => ?_)
      obtain ⟨A_25, hA_25⟩ : ∃ y : Nat → Nat → Int, y = hz_s A_20 (r y0 10) x9_13 x9_23 := ⟨_, rfl⟩
      rw [← hA_25] at hP hD
      have hw := hw A_25 hA_25
      refine lv_aload_n hx hb dX5_goThroughEnd_129 rfl (lv_at hl 3 rfl) ?_
      refine cw_get (ci := 5) (v := .ref (r y0 11)) hx hb hts hin5 hown hK hP hO_2.1 hO_2.2 rfl 11 (by decide) (hts (.fieldLink RX5 57 "HiddenMoves$Reader" "endDeedsOfA" "[I") (List.mem_cons_of_mem _ (List.mem_append_left _ (List.mem_append_left _ (List.mem_append_left _ (List.mem_append_left _ (List.mem_of_getElem? (i := 13) rfl))))))) (fun _ h9 => h9) rfl dX5_goThroughEnd_130 ?_
      refine lv_iload hx hb dX5_goThroughEnd_133 (lv_at hl 2 rfl) ?_
      refine lv_iload hx hb dX5_goThroughEnd_135 (lv_at hl 6 rfl) ?_
      obtain ⟨hO_26, hw⟩ := hw
      obtain ⟨h9i, hw⟩ := hw
      refine cw_ist (v := y5) hx hb hK hP hD hS hO_26.1 hO_26.2.2 h9i hO_26.2.1 dX5_goThroughEnd_137 (fun H locs hP hD hS => ?_)
      obtain ⟨A_27, hA_27⟩ : ∃ y : Nat → Nat → Int, y = hz_s A_25 (r y0 11) x9_13 y5 := ⟨_, rfl⟩
      rw [← hA_27] at hP hD
      have hw := hw A_27 hA_27
      refine lv_aload_n hx hb dX5_goThroughEnd_138 rfl (lv_at hl 3 rfl) ?_
      refine cw_get (ci := 5) (v := .ref (r y0 12)) hx hb hts hin5 hown hK hP hO_2.1 hO_2.2 rfl 12 (by decide) (hts (.fieldLink RX5 61 "HiddenMoves$Reader" "endDeedsOfB" "[I") (List.mem_cons_of_mem _ (List.mem_append_left _ (List.mem_append_left _ (List.mem_append_left _ (List.mem_append_left _ (List.mem_of_getElem? (i := 14) rfl))))))) (fun _ h9 => h9) rfl dX5_goThroughEnd_139 ?_
      refine lv_iload hx hb dX5_goThroughEnd_142 (lv_at hl 2 rfl) ?_
      refine lv_iload hx hb dX5_goThroughEnd_144 (lv_at hl 7 rfl) ?_
      obtain ⟨hO_28, hw⟩ := hw
      obtain ⟨h9i, hw⟩ := hw
      refine cw_ist (v := y6) hx hb hK hP hD hS hO_28.1 hO_28.2.2 h9i hO_28.2.1 dX5_goThroughEnd_146 (fun H locs hP hD hS => ?_)
      obtain ⟨A_29, hA_29⟩ : ∃ y : Nat → Nat → Int, y = hz_s A_27 (r y0 12) x9_13 y6 := ⟨_, rfl⟩
      rw [← hA_29] at hP hD
      have hw := hw A_29 hA_29
      refine lv_aload_n hx hb dX5_goThroughEnd_147 rfl (lv_at hl 3 rfl) ?_
      refine cw_get (ci := 5) (v := .ref (r y0 3)) hx hb hts hin5 hown hK hP hO_2.1 hO_2.2 rfl 3 (by decide) (hts (.fieldLink RX5 28 "HiddenMoves$Reader" "game" "LHiddenMoves$Game;") (List.mem_cons_of_mem _ (List.mem_append_left _ (List.mem_append_left _ (List.mem_append_left _ (List.mem_append_left _ (List.mem_of_getElem? (i := 3) rfl))))))) (fun _ h9 => h9) rfl dX5_goThroughEnd_148 ?_
      refine cw_get (ci := 2) (v := .ref (r (r y0 3) 0)) hx hb hts hin2 hown hK hP hO_11.1 hO_11.2 rfl 0 (by decide) (hts (.fieldLink RX5 111 "HiddenMoves$Game" "counts" "[I") (List.mem_cons_of_mem _ (List.mem_append_left _ (List.mem_append_left _ (List.mem_append_left _ (List.mem_append_left _ (List.mem_of_getElem? (i := 4) rfl))))))) (fun _ h9 => h9) rfl dX5_goThroughEnd_151 ?_
      refine lv_iconst (v := hz_i 1) hx hb dX5_goThroughEnd_154 (by decide +kernel) ?_
      refine lv_dup2_11 hx hb dX5_goThroughEnd_155 rfl rfl ?_
      obtain ⟨h9i, hw⟩ := hw
      refine cw_ild hx hb hK hP hO_12.1 hO_12.2.2 h9i hO_12.2.1 dX5_goThroughEnd_156 ?_
      refine lv_iconst (v := hz_i 1) hx hb dX5_goThroughEnd_157 (by decide +kernel) ?_
      refine hz_iadd hx hb dX5_goThroughEnd_158 ?_
      obtain ⟨h9i, hw⟩ := hw
      refine cw_ist (v := (A_29 (r (r y0 3) 0) ((1 : Int).toNat)) + 1) hx hb hK hP hD hS hO_12.1 hO_12.2.2 h9i hO_12.2.1 dX5_goThroughEnd_159 (fun H locs hP hD hS => ?_)
      obtain ⟨A_30, hA_30⟩ : ∃ y : Nat → Nat → Int, y = hz_s A_29 (r (r y0 3) 0) 1 ((A_29 (r (r y0 3) 0) ((1 : Int).toNat)) + 1) := ⟨_, rfl⟩
      rw [← hA_30] at hP hD
      have hw := hw A_30 hA_30
      refine lv_iconst (v := hz_i 1) hx hb dX5_goThroughEnd_160 (by decide +kernel) ?_
      subst hQQ
      subst hAe
      exact W.zret (v := hz_i 1) hx hb hr (hz_tZ (by decide)) (fun t ht hW => ⟨⟨hz_i 1, (1, z_10, r, A_30), rfl, ⟨rfl, hw⟩, by rw [ht]; exact hP, va_K.moved hW.alike hK, hD⟩, hS.F ht⟩) hS.2.2 dX5_goThroughEnd_161
    · have hw := hw.2 c_8
      refine lv_iconst (v := hz_i 0) hx hb dX5_goThroughEnd_37 (by decide +kernel) ?_
      subst hQQ
      subst hAe
      exact W.zret (v := hz_i 0) hx hb hr (hz_tZ (by decide)) (fun t ht hW => ⟨⟨hz_i 0, (0, z_7, r, A), rfl, ⟨rfl, hw⟩, by rw [ht]; exact hP, va_K.moved hW.alike hK, hD⟩, hS.F ht⟩) hS.2.2 dX5_goThroughEnd_38
  · have hw := hw.2 c_1
    refine lv_aload_n hx hb dX5_goThroughEnd_8 rfl (lv_at hl 0 rfl) ?_
    refine lv_bipush (v := hz_i 6) hx hb dX5_goThroughEnd_9 (by decide +kernel) ?_
    refine lv_aload_n hx hb dX5_goThroughEnd_11 rfl (lv_at hl 0 rfl) ?_
    obtain ⟨hO_31, hw⟩ := hw
    refine cw_get (ci := 5) (v := .ref (r y0 2)) hx hb hts hin5 hown hK hP hO_31.1 hO_31.2 rfl 2 (by decide) (hts (.fieldLink RX5 21 "HiddenMoves$Reader" "words" "LHiddenMoves$Words;") (List.mem_cons_of_mem _ (List.mem_append_left _ (List.mem_append_left _ (List.mem_append_left _ (List.mem_append_left _ (List.mem_of_getElem? (i := 1) rfl))))))) (fun _ h9 => h9) rfl dX5_goThroughEnd_12 ?_
    obtain ⟨hO_32, hw⟩ := hw
    refine cw_get (ci := 10) (v := .int (hz_i (z (r y0 2) 3))) hx hb hts hin10 hown hK hP hO_32.1 hO_32.2 rfl 3 (by decide) (hts (.fieldLink RX5 74 "HiddenMoves$Words" "begin" "I") (List.mem_cons_of_mem _ (List.mem_append_left _ (List.mem_append_left _ (List.mem_append_left _ (List.mem_append_left _ (List.mem_of_getElem? (i := 2) rfl))))))) (fun _ h9 => h9) rfl dX5_goThroughEnd_15 ?_
    have hFc := cw_free hD hS hA
    obtain ⟨q9, hq9⟩ := cw_at (C := C) (z := z) (r := r) (A := A) hO_31.1 hO_31.2
    refine va_calli (va_runV (As := [.int (hz_i 6), .int (hz_i (z (r y0 2) 3))]) (rest := []) ⟨hx, hb, hml, hown, hts⟩ (k_c5_refuse l D _ C L K z r A y0 6 (z (r y0 2) 3) _ hw) (cwV 2 hts gX5_goThroughEnd_X5_refuse rfl rfl rfl (by decide +kernel) ⟨Nat.le_of_ble_eq_true rfl, Nat.le_of_ble_eq_true rfl⟩) ⟨hm_blind, va_recv hK hP (ci := 5) (q0 := q9) rfl hq9, hm_pre hP hK hD hE⟩ rfl rfl hl.1 rfl (lv_room (Nat.le_of_ble_eq_true rfl)) dX5_goThroughEnd_18 ⟨Nat.le_of_ble_eq_true rfl, Nat.le_of_ble_eq_true rfl⟩) hS (fun q _ h => hFc q h) hFc (fun rv u t H1 locs ht hvm hw hB hz1 hk1 hS => ?_)
    obtain ⟨rv_33, z_34, _, _⟩ := u
    obtain ⟨hP, hK1, hD1⟩ := hB
    rw [ht] at hP
    obtain ⟨hrv, hw⟩ := hw
    subst hrv
    have hD := hD1.weaken (fun k q _ h => hFc q.1 h)
    have hP : va_P D vwCl (cw_w C L K z_34 r A) H1 := hP
    have hD : va_D Ad (cw_w C L K z_34 r A) := hD
    generalize H1 = H at hP hS ⊢
    refine W.eq (g2 := F0 m 21 ls [.int (hz_i rv_33)]) rfl ?_
    obtain ⟨h9z, hw⟩ := hw
    subst hQQ
    subst hAe
    exact W.zret (v := hz_i rv_33) hx hb hr (hz_tZ h9z) (fun t ht hW => ⟨⟨hz_i rv_33, (rv_33, z_34, r, A), rfl, ⟨rfl, hw⟩, by rw [ht]; exact hP, va_K.moved hW.alike hK, hD⟩, hS.F ht⟩) hS.2.2 dX5_goThroughEnd_21

noncomputable def wp_c5_endDraw_50 (L : List Nat) (K : Nat → cw_K) (z : Nat → Nat → Int) (r : Nat → Nat → Nat) (A : Nat → Nat → Int) (t0 : Int) (Q : Int → (Nat → Nat → Int) → Prop) : Prop := (t0 = 0 ∨ t0 = 1) ∧ Q t0 z
noncomputable def wp_c5_endDraw_45 (L : List Nat) (K : Nat → cw_K) (z : Nat → Nat → Int) (r : Nat → Nat → Nat) (A : Nat → Nat → Int) (Q : Int → (Nat → Nat → Int) → Prop) : Prop := wp_c5_endDraw_50 L K z r A 1  Q
noncomputable def wp_c5_endDraw (L : List Nat) (K : Nat → cw_K) (z : Nat → Nat → Int) (r : Nat → Nat → Nat) (A : Nat → Nat → Int) (y0 : Nat) (y1 : Int) (y2 : Int) (y3 : Int) (y5 : Int) (Q : Int → (Nat → Nat → Int) → Prop) : Prop := hz_rI y2 ∧ ((y2 ≤ 8 → hz_rL y3 ∧ ((y3 < 1000000000 → hz_rL y5 ∧ hz_rL y3 ∧ ((y5 = y3 → wp_c5_endDraw_45 L K z r A  Q) ∧ (¬ (y5 = y3) → cw_O L K 5 y0 ∧ wp_c5_refuse L K z r A y0 3 y1 (fun rv_4 z_5 => hz_rI rv_4 ∧ ((rv_4 = 0 → wp_c5_endDraw_50 L K z_5 r A 0  Q) ∧ (¬ (rv_4 = 0) → wp_c5_endDraw_45 L K z_5 r A  Q)))))) ∧ (¬ (y3 < 1000000000) → cw_O L K 5 y0 ∧ wp_c5_refuse L K z r A y0 6 y1 (fun rv_8 z_9 => (rv_8 = 0 ∨ rv_8 = 1) ∧ Q rv_8 z_9)))) ∧ (¬ (y2 ≤ 8) → cw_O L K 5 y0 ∧ wp_c5_refuse L K z r A y0 2 y1 (fun rv_11 z_12 => (rv_11 = 0 ∨ rv_11 = 1) ∧ Q rv_11 z_12)))
set_option maxHeartbeats 4000000 in
set_option maxRecDepth 100000 in
theorem k_c5_endDraw (l : Launch) (D : va_G) (sz : Nat) (C : Nat → ClassId) (L : List Nat) (K : Nat → cw_K) (z : Nat → Nat → Int) (r : Nat → Nat → Nat) (A : Nat → Nat → Int) (y0 : Nat) (y1 : Int) (y2 : Int) (y3 : Int) (y5 : Int) (Q : Int → (Nat → Nat → Int) → Prop) (hw : wp_c5_endDraw L K z r A y0 y1 y2 y3 y5 Q) : Met l yX5_endDraw wsX5_endDraw ({ frames := 1, cells := 0, slots := 0, locals := 22 } : Room) (va_Pc [.ref y0, .int (hz_i y1), .int (hz_i y2), .long (hz_l y3), .long (hz_l y5)] (hm_P D (cw_w C L K z r A) (cw_t C) sz)) (va_Qi (S := Int × (Nat → Nat → Int) × (Nat → Nat → Nat) × (Nat → Nat → Int)) (fun r u => r = hz_i u.1 ∧ Q u.1 u.2.1) (fun u t => hm_B D (va_A (cw_w C L K z r A) sz) (cw_w C L K u.2.1 r A) (cw_t C) t) (va_A (cw_w C L K z r A) sz)) 0 0 (va_A (cw_w C L K z r A) sz) := by
  refine Met.ofW (cc := cX5_endDraw) (maxL := 7) (ret := (some .boolean)) (by decide) rfl ?_
  intro p e s m args below meth c s₁ B hml hv
  obtain ⟨rfl, hsz, hP, hK, hD0, hE⟩ := hv
  have hx := B.exec
  have hb := B.bytes
  have hr := B.returns
  have hts := atoms_spec (ws := wsX5_endDraw) B.pre
  have hown : s.vm.findClass RX5 = some m.cls := findClass_of_methodNamed B.named
  have hlocks := B.notSynchronized
  subst hsz
  have hD := hD0.self (sz := s.heap.size)
  generalize hAe : va_A (cw_w C L K z r A) s.heap.size = Ad at hD ⊢
  have hA : ∀ q : Nat, s.heap.size ≤ q → Ad q := fun q h => by rw [← hAe]; exact Or.inr h
  have hS : va_S Ad s.heap s.heap [] := va_S.rf
  have hl := lv_entry ([.ref y0, .int (hz_i y1), .int (hz_i y2), .long (hz_l y3), .long (hz_l y5)]) (n := 7) (Nat.le_of_ble_eq_true rfl)
  rw [lg_entry_eq]
  generalize (lg_sl ([.ref y0, .int (hz_i y1), .int (hz_i y2), .long (hz_l y3), .long (hz_l y5)]) ++ List.replicate (7 - (lg_sl ([.ref y0, .int (hz_i y1), .int (hz_i y2), .long (hz_l y3), .long (hz_l y5)])).length) Slot.unset).toArray = ls at hl ⊢
  have hl : lv_has ls 7 [(0, .ref y0), (1, .int (hz_i y1)), (2, .int (hz_i y2)), (3, .long (hz_l y3)), (5, .long (hz_l y5))] := hl
  refine mw_Q (fun QQ hQQ => ?_)
  have hP0 := hP; have hD0 := hD; have hS0 := hS; have hl0 := hl; have hw0 := hw
  clear hP hD hS hl hw
  have L50 : ∀ (z : Nat → Nat → Int) (t0 : Int), wp_c5_endDraw_50 L K z r A t0  Q → ∀ (H : Heap) (locs : List Loc) (ls : Array Slot), va_P D vwCl (cw_w C L K z r A) H → va_D Ad (cw_w C L K z r A) → va_S Ad s.heap H locs → lv_has ls 7 [] → W p l e (headSpec wsX5_endDraw ({ frames := 1, cells := 0, slots := 0, locals := 22 } : Room)).room s m (List.toArray [.ref y0, .int (hz_i y1), .int (hz_i y2), .long (hz_l y3), .long (hz_l y5)]) below meth c H locs 0 0 QQ (F0 m 50 ls [.int (hz_i t0)]) := by
    intro z t0 hw H locs ls hP hD hS hl
    obtain ⟨h9z, hw⟩ := hw
    subst hQQ
    subst hAe
    exact W.zret (v := hz_i t0) hx hb hr (hz_tZ h9z) (fun t ht hW => ⟨⟨hz_i t0, (t0, z, r, A), rfl, ⟨rfl, hw⟩, by rw [ht]; exact hP, va_K.moved hW.alike hK, hD⟩, hS.F ht⟩) hS.2.2 dX5_endDraw_50
  have L45 : ∀ (z : Nat → Nat → Int), wp_c5_endDraw_45 L K z r A  Q → ∀ (H : Heap) (locs : List Loc) (ls : Array Slot), va_P D vwCl (cw_w C L K z r A) H → va_D Ad (cw_w C L K z r A) → va_S Ad s.heap H locs → lv_has ls 7 [] → W p l e (headSpec wsX5_endDraw ({ frames := 1, cells := 0, slots := 0, locals := 22 } : Room)).room s m (List.toArray [.ref y0, .int (hz_i y1), .int (hz_i y2), .long (hz_l y3), .long (hz_l y5)]) below meth c H locs 0 0 QQ (F0 m 45 ls []) := by
    intro z hw H locs ls hP hD hS hl
    refine lv_iconst (v := hz_i 1) hx hb dX5_endDraw_45 (by decide +kernel) ?_
    refine lv_goto (tgt := 50) hx hb dX5_endDraw_46 (by decide) ?_
    exact L50 z 1 hw H locs ls hP hD hS (lv_sub hl [] rfl)
  have hP := hP0; have hD := hD0; have hS := hS0; have hl := hl0; have hw := hw0
  obtain ⟨H, hH⟩ : ∃ H : Heap, H = s.heap := ⟨_, rfl⟩
  obtain ⟨locs, hlocs⟩ : ∃ L : List Loc, L = [] := ⟨_, rfl⟩
  rw [← hH] at hP
  have hS : va_S Ad s.heap H locs := by rw [hH, hlocs]; exact hS
  refine mw_HL hH hlocs ?_
  refine lv_iload_n hx hb dX5_endDraw_0 rfl (lv_at hl 2 rfl) ?_
  refine lv_bipush (v := hz_i 8) hx hb dX5_endDraw_1 (by decide +kernel) ?_
  obtain ⟨h9a, hw⟩ := hw
  refine hz_icmp_le (tgt := 13) hx hb dX5_endDraw_3 (by decide) h9a ⟨by decide, by decide⟩ (fun c_1 => ?_) (fun c_1 => ?_)
  · have hw := hw.1 c_1
    refine lv_lload_n hx hb dX5_endDraw_13 rfl (lv_at hl 3 rfl) ?_
    refine lv_ldc2 hx hb hown (hts (.constantLong RX5 124 (1000000000)) (List.mem_cons_of_mem _ (List.mem_append_left _ (List.mem_of_getElem? (i := 0) rfl)))) dX5_endDraw_14 ?_
    refine hz_asl (b := 1000000000) (by decide +kernel) ?_
    obtain ⟨h9a, hw⟩ := hw
    refine hz_lcmp_lt (tgt := 29) hx hb dX5_endDraw_17 dX5_endDraw_18 (by decide) h9a ⟨by decide, by decide⟩ (fun c_2 => ?_) (fun c_2 => ?_)
    · have hw := hw.1 c_2
      refine lv_lload hx hb dX5_endDraw_29 (lv_at hl 4 rfl) ?_
      refine lv_lload_n hx hb dX5_endDraw_31 rfl (lv_at hl 3 rfl) ?_
      obtain ⟨h9a, hw⟩ := hw
      obtain ⟨h9b, hw⟩ := hw
      refine hz_lcmp_eq (tgt := 45) hx hb dX5_endDraw_32 dX5_endDraw_33 (by decide) h9a h9b (fun c_3 => ?_) (fun c_3 => ?_)
      · have hw := hw.1 c_3
        exact L45 z hw H locs ls hP hD hS (lv_sub hl [] rfl)
      · have hw := hw.2 c_3
        refine lv_aload_n hx hb dX5_endDraw_36 rfl (lv_at hl 0 rfl) ?_
        refine lv_iconst (v := hz_i 3) hx hb dX5_endDraw_37 (by decide +kernel) ?_
        refine lv_iload_n hx hb dX5_endDraw_38 rfl (lv_at hl 1 rfl) ?_
        obtain ⟨hO_6, hw⟩ := hw
        have hFc := cw_free hD hS hA
        obtain ⟨q9, hq9⟩ := cw_at (C := C) (z := z) (r := r) (A := A) hO_6.1 hO_6.2
        refine va_calli (va_runV (As := [.int (hz_i 3), .int (hz_i y1)]) (rest := []) ⟨hx, hb, hml, hown, hts⟩ (k_c5_refuse l D _ C L K z r A y0 3 y1 _ hw) (cwV 2 hts gX5_endDraw_X5_refuse rfl rfl rfl (by decide +kernel) ⟨Nat.le_of_ble_eq_true rfl, Nat.le_of_ble_eq_true rfl⟩) ⟨hm_blind, va_recv hK hP (ci := 5) (q0 := q9) rfl hq9, hm_pre hP hK hD hE⟩ rfl rfl hl.1 rfl (lv_room (Nat.le_of_ble_eq_true rfl)) dX5_endDraw_39 ⟨Nat.le_of_ble_eq_true rfl, Nat.le_of_ble_eq_true rfl⟩) hS (fun q _ h => hFc q h) hFc (fun rv u t H1 locs ht hvm hw hB hz1 hk1 hS => ?_)
        obtain ⟨rv_4, z_5, _, _⟩ := u
        obtain ⟨hP, hK1, hD1⟩ := hB
        rw [ht] at hP
        obtain ⟨hrv, hw⟩ := hw
        subst hrv
        have hD := hD1.weaken (fun k q _ h => hFc q.1 h)
        have hP : va_P D vwCl (cw_w C L K z_5 r A) H1 := hP
        have hD : va_D Ad (cw_w C L K z_5 r A) := hD
        generalize H1 = H at hP hS ⊢
        refine W.eq (g2 := F0 m 42 ls [.int (hz_i rv_4)]) rfl ?_
        obtain ⟨h9a, hw⟩ := hw
        refine hz_if_eq (tgt := 49) hx hb dX5_endDraw_42 (by decide) h9a (fun c_7 => ?_) (fun c_7 => ?_)
        · have hw := hw.1 c_7
          refine lv_iconst (v := hz_i 0) hx hb dX5_endDraw_49 (by decide +kernel) ?_
          exact L50 z_5 0 hw H locs ls hP hD hS (lv_sub hl [] rfl)
        · have hw := hw.2 c_7
          exact L45 z_5 hw H locs ls hP hD hS (lv_sub hl [] rfl)
    · have hw := hw.2 c_2
      refine lv_aload_n hx hb dX5_endDraw_21 rfl (lv_at hl 0 rfl) ?_
      refine lv_bipush (v := hz_i 6) hx hb dX5_endDraw_22 (by decide +kernel) ?_
      refine lv_iload_n hx hb dX5_endDraw_24 rfl (lv_at hl 1 rfl) ?_
      obtain ⟨hO_10, hw⟩ := hw
      have hFc := cw_free hD hS hA
      obtain ⟨q9, hq9⟩ := cw_at (C := C) (z := z) (r := r) (A := A) hO_10.1 hO_10.2
      refine va_calli (va_runV (As := [.int (hz_i 6), .int (hz_i y1)]) (rest := []) ⟨hx, hb, hml, hown, hts⟩ (k_c5_refuse l D _ C L K z r A y0 6 y1 _ hw) (cwV 2 hts gX5_endDraw_X5_refuse rfl rfl rfl (by decide +kernel) ⟨Nat.le_of_ble_eq_true rfl, Nat.le_of_ble_eq_true rfl⟩) ⟨hm_blind, va_recv hK hP (ci := 5) (q0 := q9) rfl hq9, hm_pre hP hK hD hE⟩ rfl rfl hl.1 rfl (lv_room (Nat.le_of_ble_eq_true rfl)) dX5_endDraw_25 ⟨Nat.le_of_ble_eq_true rfl, Nat.le_of_ble_eq_true rfl⟩) hS (fun q _ h => hFc q h) hFc (fun rv u t H1 locs ht hvm hw hB hz1 hk1 hS => ?_)
      obtain ⟨rv_8, z_9, _, _⟩ := u
      obtain ⟨hP, hK1, hD1⟩ := hB
      rw [ht] at hP
      obtain ⟨hrv, hw⟩ := hw
      subst hrv
      have hD := hD1.weaken (fun k q _ h => hFc q.1 h)
      have hP : va_P D vwCl (cw_w C L K z_9 r A) H1 := hP
      have hD : va_D Ad (cw_w C L K z_9 r A) := hD
      generalize H1 = H at hP hS ⊢
      refine W.eq (g2 := F0 m 28 ls [.int (hz_i rv_8)]) rfl ?_
      obtain ⟨h9z, hw⟩ := hw
      subst hQQ
      subst hAe
      exact W.zret (v := hz_i rv_8) hx hb hr (hz_tZ h9z) (fun t ht hW => ⟨⟨hz_i rv_8, (rv_8, z_9, r, A), rfl, ⟨rfl, hw⟩, by rw [ht]; exact hP, va_K.moved hW.alike hK, hD⟩, hS.F ht⟩) hS.2.2 dX5_endDraw_28
  · have hw := hw.2 c_1
    refine lv_aload_n hx hb dX5_endDraw_6 rfl (lv_at hl 0 rfl) ?_
    refine lv_iconst (v := hz_i 2) hx hb dX5_endDraw_7 (by decide +kernel) ?_
    refine lv_iload_n hx hb dX5_endDraw_8 rfl (lv_at hl 1 rfl) ?_
    obtain ⟨hO_13, hw⟩ := hw
    have hFc := cw_free hD hS hA
    obtain ⟨q9, hq9⟩ := cw_at (C := C) (z := z) (r := r) (A := A) hO_13.1 hO_13.2
    refine va_calli (va_runV (As := [.int (hz_i 2), .int (hz_i y1)]) (rest := []) ⟨hx, hb, hml, hown, hts⟩ (k_c5_refuse l D _ C L K z r A y0 2 y1 _ hw) (cwV 2 hts gX5_endDraw_X5_refuse rfl rfl rfl (by decide +kernel) ⟨Nat.le_of_ble_eq_true rfl, Nat.le_of_ble_eq_true rfl⟩) ⟨hm_blind, va_recv hK hP (ci := 5) (q0 := q9) rfl hq9, hm_pre hP hK hD hE⟩ rfl rfl hl.1 rfl (lv_room (Nat.le_of_ble_eq_true rfl)) dX5_endDraw_9 ⟨Nat.le_of_ble_eq_true rfl, Nat.le_of_ble_eq_true rfl⟩) hS (fun q _ h => hFc q h) hFc (fun rv u t H1 locs ht hvm hw hB hz1 hk1 hS => ?_)
    obtain ⟨rv_11, z_12, _, _⟩ := u
    obtain ⟨hP, hK1, hD1⟩ := hB
    rw [ht] at hP
    obtain ⟨hrv, hw⟩ := hw
    subst hrv
    have hD := hD1.weaken (fun k q _ h => hFc q.1 h)
    have hP : va_P D vwCl (cw_w C L K z_12 r A) H1 := hP
    have hD : va_D Ad (cw_w C L K z_12 r A) := hD
    generalize H1 = H at hP hS ⊢
    refine W.eq (g2 := F0 m 12 ls [.int (hz_i rv_11)]) rfl ?_
    obtain ⟨h9z, hw⟩ := hw
    subst hQQ
    subst hAe
    exact W.zret (v := hz_i rv_11) hx hb hr (hz_tZ h9z) (fun t ht hW => ⟨⟨hz_i rv_11, (rv_11, z_12, r, A), rfl, ⟨rfl, hw⟩, by rw [ht]; exact hP, va_K.moved hW.alike hK, hD⟩, hS.F ht⟩) hS.2.2 dX5_endDraw_12

noncomputable def wp_c7_find_2 (L : List Nat) (K : Nat → cw_K) (z : Nat → Nat → Int) (r : Nat → Nat → Nat) (A : Nat → Nat → Int) (y0 : Nat) (y1 : Int) (x2 : Int) (Q : Int → Prop) : Prop := ∀ P2 : Int → Prop, (∀ (x2 : Int), cw_O L K 7 y0 ∧ hz_rI x2 ∧ hz_rI (z y0 0) ∧ ((z y0 0 ≤ x2 → Q (-1)) ∧ (¬ (z y0 0 ≤ x2) → cw_A L K 0 (r y0 1) ∧ ((0 : Int) ≤ x2 ∧ x2 < (cw_n K (r y0 1) : Int)) ∧ hz_rI (A (r y0 1) (x2.toNat)) ∧ hz_rI y1 ∧ ((¬ A (r y0 1) (x2.toNat) = y1 → ∀ x2_5 : Int, x2_5 = x2 + 1 → P2 x2_5) ∧ (A (r y0 1) (x2.toNat) = y1 → Q x2)))) → P2 x2) → P2 x2
noncomputable def wp_c7_find (L : List Nat) (K : Nat → cw_K) (z : Nat → Nat → Int) (r : Nat → Nat → Nat) (A : Nat → Nat → Int) (y0 : Nat) (y1 : Int) (Q : Int → Prop) : Prop := wp_c7_find_2 L K z r A y0 y1 0  Q
set_option maxHeartbeats 4000000 in
set_option maxRecDepth 100000 in
theorem k_c7_find (l : Launch) (D : va_G) (sz : Nat) (C : Nat → ClassId) (L : List Nat) (K : Nat → cw_K) (z : Nat → Nat → Int) (r : Nat → Nat → Nat) (A : Nat → Nat → Int) (y0 : Nat) (y1 : Int) (Q : Int → Prop) (hw : wp_c7_find L K z r A y0 y1 Q) : Met l yX7_find wsX7_find ({ frames := 0, cells := 0, slots := 0, locals := 0 } : Room) (va_Pc [.ref y0, .int (hz_i y1)] (hm_P D (cw_w C L K z r A) (cw_t C) sz)) (va_Qi (S := Int × (Nat → Nat → Int) × (Nat → Nat → Nat) × (Nat → Nat → Int)) (fun r u => r = hz_i u.1 ∧ Q u.1) (fun u t => hm_B D (va_A (cw_w C L K z r A) sz) (cw_w C L K z r A) (cw_t C) t) (va_A (cw_w C L K z r A) sz)) 0 0 (va_A (cw_w C L K z r A) sz) := by
  refine Met.ofW (cc := cX7_find) (maxL := 3) (ret := (some .int)) (by decide) rfl ?_
  intro p e s m args below meth c s₁ B hml hv
  obtain ⟨rfl, hsz, hP, hK, hD0, hE⟩ := hv
  have hx := B.exec
  have hb := B.bytes
  have hr := B.returns
  have hts := atoms_spec (ws := wsX7_find) B.pre
  have hown : s.vm.findClass RX7 = some m.cls := findClass_of_methodNamed B.named
  have hlocks := B.notSynchronized
  have hin7 : ∀ w ∈ u_ws RX7 TX7 8, w ∈ wsX7_find := fun w h => List.mem_cons_of_mem _ (List.mem_append_right _ (h))
  subst hsz
  have hD := hD0.self (sz := s.heap.size)
  generalize hAe : va_A (cw_w C L K z r A) s.heap.size = Ad at hD ⊢
  have hA : ∀ q : Nat, s.heap.size ≤ q → Ad q := fun q h => by rw [← hAe]; exact Or.inr h
  have hS : va_S Ad s.heap s.heap [] := va_S.rf
  have hl := lv_entry ([.ref y0, .int (hz_i y1)]) (n := 3) (Nat.le_of_ble_eq_true rfl)
  rw [lg_entry_eq]
  generalize (lg_sl ([.ref y0, .int (hz_i y1)]) ++ List.replicate (3 - (lg_sl ([.ref y0, .int (hz_i y1)])).length) Slot.unset).toArray = ls at hl ⊢
  have hl : lv_has ls 3 [(0, .ref y0), (1, .int (hz_i y1))] := hl
  refine mw_Q (fun QQ hQQ => ?_)
  have hP0 := hP; have hD0 := hD; have hS0 := hS; have hl0 := hl; have hw0 := hw
  clear hP hD hS hl hw
  have L2 : ∀ (x2 : Int), wp_c7_find_2 L K z r A y0 y1 x2  Q → ∀ (H : Heap) (locs : List Loc) (ls : Array Slot), va_P D vwCl (cw_w C L K z r A) H → va_D Ad (cw_w C L K z r A) → va_S Ad s.heap H locs → lv_has ls 3 [(0, .ref y0), (1, .int (hz_i y1)), (2, .int (hz_i x2))] → W p l e (headSpec wsX7_find ({ frames := 0, cells := 0, slots := 0, locals := 0 } : Room)).room s m (List.toArray [.ref y0, .int (hz_i y1)]) below meth c H locs 0 0 QQ (F0 m 2 ls []) := by
    intro x2 hw
    obtain ⟨P2, hP2⟩ : ∃ P : Int → Prop, ∀ (x2 : Int), P x2 ↔ (∀ (H : Heap) (locs : List Loc) (ls : Array Slot), va_P D vwCl (cw_w C L K z r A) H → va_D Ad (cw_w C L K z r A) → va_S Ad s.heap H locs → lv_has ls 3 [(0, .ref y0), (1, .int (hz_i y1)), (2, .int (hz_i x2))] → W p l e (headSpec wsX7_find ({ frames := 0, cells := 0, slots := 0, locals := 0 } : Room)).room s m (List.toArray [.ref y0, .int (hz_i y1)]) below meth c H locs 0 0 QQ (F0 m 2 ls [])) := ⟨fun (x2 : Int) => ∀ (H : Heap) (locs : List Loc) (ls : Array Slot), va_P D vwCl (cw_w C L K z r A) H → va_D Ad (cw_w C L K z r A) → va_S Ad s.heap H locs → lv_has ls 3 [(0, .ref y0), (1, .int (hz_i y1)), (2, .int (hz_i x2))] → W p l e (headSpec wsX7_find ({ frames := 0, cells := 0, slots := 0, locals := 0 } : Room)).room s m (List.toArray [.ref y0, .int (hz_i y1)]) below meth c H locs 0 0 QQ (F0 m 2 ls []), fun _ => Iff.rfl⟩
    refine (hP2 x2).mp (hw P2 ?_)
    intro x2 hw
    refine (hP2 x2).mpr ?_
    intro H locs ls hP hD hS hl
    refine lv_iload_n hx hb dX7_find_2 rfl (lv_at hl 2 rfl) ?_
    refine lv_aload_n hx hb dX7_find_3 rfl (lv_at hl 0 rfl) ?_
    obtain ⟨hO_1, hw⟩ := hw
    refine cw_get (ci := 7) (v := .int (hz_i (z y0 0))) hx hb hts hin7 hown hK hP hO_1.1 hO_1.2 rfl 0 (by decide) (hts (.fieldLink RX7 9 "HiddenMoves$Side" "sets" "I") (List.mem_cons_of_mem _ (List.mem_append_left _ (List.mem_of_getElem? (i := 0) rfl)))) (fun _ h9 => h9) rfl dX7_find_4 ?_
    obtain ⟨h9a, hw⟩ := hw
    obtain ⟨h9b, hw⟩ := hw
    refine hz_icmp_ge (tgt := 28) hx hb dX7_find_7 (by decide) h9a h9b (fun c_2 => ?_) (fun c_2 => ?_)
    · have hw := hw.1 c_2
      refine lv_iconst (v := hz_i (-1)) hx hb dX7_find_28 (by decide +kernel) ?_
      subst hQQ
      subst hAe
      exact W.iret (v := hz_i (-1)) hx hb hr (fun t ht hW => ⟨⟨hz_i (-1), ((-1), z, r, A), rfl, ⟨rfl, hw⟩, by rw [ht]; exact hP, va_K.moved hW.alike hK, hD⟩, hS.F ht⟩) hS.2.2 dX7_find_29
    · have hw := hw.2 c_2
      refine lv_aload_n hx hb dX7_find_10 rfl (lv_at hl 0 rfl) ?_
      refine cw_get (ci := 7) (v := .ref (r y0 1)) hx hb hts hin7 hown hK hP hO_1.1 hO_1.2 rfl 1 (by decide) (hts (.fieldLink RX7 15 "HiddenMoves$Side" "numbers" "[I") (List.mem_cons_of_mem _ (List.mem_append_left _ (List.mem_of_getElem? (i := 1) rfl)))) (fun _ h9 => h9) rfl dX7_find_11 ?_
      refine lv_iload_n hx hb dX7_find_14 rfl (lv_at hl 2 rfl) ?_
      obtain ⟨hO_3, hw⟩ := hw
      obtain ⟨h9i, hw⟩ := hw
      refine cw_ild hx hb hK hP hO_3.1 hO_3.2.2 h9i hO_3.2.1 dX7_find_15 ?_
      refine lv_iload_n hx hb dX7_find_16 rfl (lv_at hl 1 rfl) ?_
      obtain ⟨h9a, hw⟩ := hw
      obtain ⟨h9b, hw⟩ := hw
      refine hz_icmp_ne (tgt := 22) hx hb dX7_find_17 (by decide) h9a h9b (fun c_4 => ?_) (fun c_4 => ?_)
      · have hw := hw.1 c_4
        obtain ⟨x2_5, hx2_5⟩ : ∃ y : Int, y = x2 + 1 := ⟨_, rfl⟩
        have hw := hw x2_5 hx2_5
        refine lv_iinc (v := hz_i x2_5) (lv' := [(2, .int (hz_i x2_5)), (0, .ref y0), (1, .int (hz_i y1))]) hx hb dX7_find_22 hl (k := 2) rfl (by rw [hx2_5]; exact hz_i_add _ _) (by decide) rfl (fun ls hl => ?_)
        refine lv_goto (tgt := 2) hx hb dX7_find_25 (by decide) ?_
        exact (hP2 x2_5).mp hw H locs ls hP hD hS (lv_sub hl [1, 2, 0] rfl)
      · have hw := hw.2 c_4
        refine lv_iload_n hx hb dX7_find_20 rfl (lv_at hl 2 rfl) ?_
        subst hQQ
        subst hAe
        exact W.iret (v := hz_i x2) hx hb hr (fun t ht hW => ⟨⟨hz_i x2, (x2, z, r, A), rfl, ⟨rfl, hw⟩, by rw [ht]; exact hP, va_K.moved hW.alike hK, hD⟩, hS.F ht⟩) hS.2.2 dX7_find_21
  have hP := hP0; have hD := hD0; have hS := hS0; have hl := hl0; have hw := hw0
  obtain ⟨H, hH⟩ : ∃ H : Heap, H = s.heap := ⟨_, rfl⟩
  obtain ⟨locs, hlocs⟩ : ∃ L : List Loc, L = [] := ⟨_, rfl⟩
  rw [← hH] at hP
  have hS : va_S Ad s.heap H locs := by rw [hH, hlocs]; exact hS
  refine mw_HL hH hlocs ?_
  refine lv_iconst (v := hz_i 0) hx hb dX7_find_0 (by decide +kernel) ?_
  refine lv_istore_n (lv' := [(2, .int (hz_i 0)), (0, .ref y0), (1, .int (hz_i y1))]) hx hb dX7_find_1 rfl hl (by decide) rfl (fun ls hl => ?_)
  exact L2 0 hw H locs ls hP hD hS (lv_sub hl [1, 2, 0] rfl)

noncomputable def wp_c7_begin_56 (L : List Nat) (K : Nat → cw_K) (z : Nat → Nat → Int) (r : Nat → Nat → Nat) (A : Nat → Nat → Int) (y0 : Nat) (x3 : Int) (t0 : Int) (t1 : Int) (t2 : Nat) (Q : Int → (Nat → Nat → Int) → (Nat → Nat → Int) → Prop) : Prop := cw_A L K 0 t2 ∧ ((0 : Int) ≤ t1 ∧ t1 < (cw_n K t2 : Int)) ∧ ∀ A_2 : Nat → Nat → Int, A_2 = hz_s A t2 t1 t0 → cw_O L K 7 y0 ∧ ∀ z_4 : Nat → Nat → Int, z_4 = cw_s z y0 0 (x3 + 1) → Q x3 z_4 A_2
noncomputable def wp_c7_begin (L : List Nat) (K : Nat → cw_K) (z : Nat → Nat → Int) (r : Nat → Nat → Nat) (A : Nat → Nat → Int) (y0 : Nat) (y1 : Int) (y2 : Int) (Q : Int → (Nat → Nat → Int) → (Nat → Nat → Int) → Prop) : Prop := cw_O L K 7 y0 ∧ hz_rI (z y0 0) ∧ ∀ x9_6 : Int, x9_6 = min (z y0 0) 9 → cw_A L K 0 (r y0 1) ∧ ((0 : Int) ≤ x9_6 ∧ x9_6 < (cw_n K (r y0 1) : Int)) ∧ ∀ A_8 : Nat → Nat → Int, A_8 = hz_s A (r y0 1) x9_6 y1 → cw_A L K 0 (r y0 2) ∧ ((0 : Int) ≤ x9_6 ∧ x9_6 < (cw_n K (r y0 2) : Int)) ∧ ∀ A_10 : Nat → Nat → Int, A_10 = hz_s A_8 (r y0 2) x9_6 0 → cw_A L K 0 (r y0 4) ∧ ((0 : Int) ≤ x9_6 ∧ x9_6 < (cw_n K (r y0 4) : Int)) ∧ ∀ A_12 : Nat → Nat → Int, A_12 = hz_s A_10 (r y0 4) x9_6 y2 → hz_rI y2 ∧ ((¬ y2 = (-1) → wp_c7_setOf L K z r A_12 y2 (fun rv_14 => cw_A L K 0 (r y0 3) ∧ ((0 : Int) ≤ rv_14 ∧ rv_14 < (cw_n K (r y0 3) : Int)) ∧ wp_c7_begin_56 L K z r A_12 y0 x9_6 ((A_12 (r y0 3) (rv_14.toNat)) + 1) x9_6 (r y0 3)  Q)) ∧ (y2 = (-1) → wp_c7_begin_56 L K z r A_12 y0 x9_6 0 x9_6 (r y0 3)  Q))
set_option maxHeartbeats 4000000 in
set_option maxRecDepth 100000 in
theorem k_c7_begin (l : Launch) (D : va_G) (sz : Nat) (C : Nat → ClassId) (L : List Nat) (K : Nat → cw_K) (z : Nat → Nat → Int) (r : Nat → Nat → Nat) (A : Nat → Nat → Int) (y0 : Nat) (y1 : Int) (y2 : Int) (Q : Int → (Nat → Nat → Int) → (Nat → Nat → Int) → Prop) (hw : wp_c7_begin L K z r A y0 y1 y2 Q) : Met l yX7_begin wsX7_begin ({ frames := 1, cells := 0, slots := 0, locals := 20 } : Room) (va_Pc [.ref y0, .int (hz_i y1), .int (hz_i y2)] (hm_P D (cw_w C L K z r A) (cw_t C) sz)) (va_Qi (S := Int × (Nat → Nat → Int) × (Nat → Nat → Nat) × (Nat → Nat → Int)) (fun r u => r = hz_i u.1 ∧ Q u.1 u.2.1 u.2.2.2) (fun u t => hm_B D (va_A (cw_w C L K z r A) sz) (cw_w C L K u.2.1 r u.2.2.2) (cw_t C) t) (va_A (cw_w C L K z r A) sz)) 0 0 (va_A (cw_w C L K z r A) sz) := by
  refine Met.ofW (cc := cX7_begin) (maxL := 4) (ret := (some .int)) (by decide) rfl ?_
  intro p e s m args below meth c s₁ B hml hv
  obtain ⟨rfl, hsz, hP, hK, hD0, hE⟩ := hv
  have hx := B.exec
  have hb := B.bytes
  have hr := B.returns
  have hts := atoms_spec (ws := wsX7_begin) B.pre
  have hown : s.vm.findClass RX7 = some m.cls := findClass_of_methodNamed B.named
  have hlocks := B.notSynchronized
  have hin7 : ∀ w ∈ u_ws RX7 TX7 8, w ∈ wsX7_begin := fun w h => List.mem_cons_of_mem _ (List.mem_append_right _ (h))
  subst hsz
  have hD := hD0.self (sz := s.heap.size)
  generalize hAe : va_A (cw_w C L K z r A) s.heap.size = Ad at hD ⊢
  have hA : ∀ q : Nat, s.heap.size ≤ q → Ad q := fun q h => by rw [← hAe]; exact Or.inr h
  have hS : va_S Ad s.heap s.heap [] := va_S.rf
  have hl := lv_entry ([.ref y0, .int (hz_i y1), .int (hz_i y2)]) (n := 4) (Nat.le_of_ble_eq_true rfl)
  rw [lg_entry_eq]
  generalize (lg_sl ([.ref y0, .int (hz_i y1), .int (hz_i y2)]) ++ List.replicate (4 - (lg_sl ([.ref y0, .int (hz_i y1), .int (hz_i y2)])).length) Slot.unset).toArray = ls at hl ⊢
  have hl : lv_has ls 4 [(0, .ref y0), (1, .int (hz_i y1)), (2, .int (hz_i y2))] := hl
  refine mw_Q (fun QQ hQQ => ?_)
  have hP0 := hP; have hD0 := hD; have hS0 := hS; have hl0 := hl; have hw0 := hw
  clear hP hD hS hl hw
  have L56 : ∀ (z : Nat → Nat → Int) (A : Nat → Nat → Int) (x3 : Int) (t0 : Int) (t1 : Int) (t2 : Nat), wp_c7_begin_56 L K z r A y0 x3 t0 t1 t2  Q → ∀ (H : Heap) (locs : List Loc) (ls : Array Slot), va_P D vwCl (cw_w C L K z r A) H → va_D Ad (cw_w C L K z r A) → va_S Ad s.heap H locs → lv_has ls 4 [(0, .ref y0), (3, .int (hz_i x3))] → W p l e (headSpec wsX7_begin ({ frames := 1, cells := 0, slots := 0, locals := 20 } : Room)).room s m (List.toArray [.ref y0, .int (hz_i y1), .int (hz_i y2)]) below meth c H locs 0 0 QQ (F0 m 56 ls [.int (hz_i t0), .int (hz_i t1), .ref t2]) := by
    intro z A x3 t0 t1 t2 hw H locs ls hP hD hS hl
    obtain ⟨hO_1, hw⟩ := hw
    obtain ⟨h9i, hw⟩ := hw
    refine cw_ist (v := t0) hx hb hK hP hD hS hO_1.1 hO_1.2.2 h9i hO_1.2.1 dX7_begin_56 (fun H locs hP hD hS => ?_)
    obtain ⟨A_2, hA_2⟩ : ∃ y : Nat → Nat → Int, y = hz_s A t2 t1 t0 := ⟨_, rfl⟩
    rw [← hA_2] at hP hD
    have hw := hw A_2 hA_2
    refine lv_aload_n hx hb dX7_begin_57 rfl (lv_at hl 0 rfl) ?_
    refine lv_iload_n hx hb dX7_begin_58 rfl (lv_at hl 1 rfl) ?_
    refine lv_iconst (v := hz_i 1) hx hb dX7_begin_59 (by decide +kernel) ?_
    refine hz_iadd hx hb dX7_begin_60 ?_
    obtain ⟨hO_3, hw⟩ := hw
    refine cw_putz (ci := 7) (ty := .int) (v := .int (hz_i (x3 + 1))) (x := x3 + 1) hx hb hts hin7 tyX7 tyX7_ok nmX7 hown hK hP hD hS hO_3.1 hO_3.2 rfl 0 (by decide) (hts (.fieldLink RX7 9 "HiddenMoves$Side" "sets" "I") (List.mem_cons_of_mem _ (List.mem_append_left _ (List.mem_of_getElem? (i := 0) rfl)))) (fun _ h9 => h9) rfl (by decide +kernel) rfl rfl (Nat.le_of_ble_eq_true rfl) (cw_z7_0 _ _ _) dX7_begin_61 (fun H locs hP hD hS => ?_)
    obtain ⟨z_4, hz_4⟩ : ∃ y : Nat → Nat → Int, y = cw_s z y0 0 (x3 + 1) := ⟨_, rfl⟩
    rw [← hz_4] at hP hD
    have hw := hw z_4 hz_4
    refine lv_iload_n hx hb dX7_begin_64 rfl (lv_at hl 1 rfl) ?_
    subst hQQ
    subst hAe
    exact W.iret (v := hz_i x3) hx hb hr (fun t ht hW => ⟨⟨hz_i x3, (x3, z_4, r, A_2), rfl, ⟨rfl, hw⟩, by rw [ht]; exact hP, va_K.moved hW.alike hK, hD⟩, hS.F ht⟩) hS.2.2 dX7_begin_65
  have hP := hP0; have hD := hD0; have hS := hS0; have hl := hl0; have hw := hw0
  obtain ⟨H, hH⟩ : ∃ H : Heap, H = s.heap := ⟨_, rfl⟩
  obtain ⟨locs, hlocs⟩ : ∃ L : List Loc, L = [] := ⟨_, rfl⟩
  rw [← hH] at hP
  have hS : va_S Ad s.heap H locs := by rw [hH, hlocs]; exact hS
  refine mw_HL hH hlocs ?_
  refine lv_aload_n hx hb dX7_begin_0 rfl (lv_at hl 0 rfl) ?_
  obtain ⟨hO_5, hw⟩ := hw
  refine cw_get (ci := 7) (v := .int (hz_i (z y0 0))) hx hb hts hin7 hown hK hP hO_5.1 hO_5.2 rfl 0 (by decide) (hts (.fieldLink RX7 9 "HiddenMoves$Side" "sets" "I") (List.mem_cons_of_mem _ (List.mem_append_left _ (List.mem_of_getElem? (i := 0) rfl)))) (fun _ h9 => h9) rfl dX7_begin_1 ?_
  refine lv_bipush (v := hz_i 9) hx hb dX7_begin_4 (by decide +kernel) ?_
  obtain ⟨h9a, hw⟩ := hw
  refine cw_mmin (x := z y0 0) (y := 9) hx hb (by rw [hml]; exact hl.1.symm) hown (hts (.methodLink RX7 41 Lib.Math.min.name) (List.mem_cons_of_mem _ (List.mem_append_left _ (List.mem_of_getElem? (i := 1) rfl)))) (hts (.static Lib.Math.min.name) (List.mem_cons_of_mem _ (List.mem_append_left _ (List.mem_of_getElem? (i := 2) rfl)))) (hts (.initialized "java/lang/Math") (List.mem_cons_of_mem _ (List.mem_append_left _ (List.mem_of_getElem? (i := 3) rfl)))) (hts (.code Lib.Math.min.name Lib.Math.min.code 2 (some .int)) (List.mem_cons_of_mem _ (List.mem_append_left _ (List.mem_of_getElem? (i := 4) rfl)))) (Nat.le_of_ble_eq_true rfl) (Nat.le_of_ble_eq_true rfl) (Nat.zero_le _) (Nat.zero_le _) dX7_begin_6 h9a ⟨by decide, by decide⟩ (fun x9_6 hx9_6 => ?_)
  have hw := hw x9_6 hx9_6
  refine lv_istore_n (lv' := [(3, .int (hz_i x9_6)), (0, .ref y0), (1, .int (hz_i y1)), (2, .int (hz_i y2))]) hx hb dX7_begin_9 rfl hl (by decide) rfl (fun ls hl => ?_)
  refine lv_aload_n hx hb dX7_begin_10 rfl (lv_at hl 1 rfl) ?_
  refine cw_get (ci := 7) (v := .ref (r y0 1)) hx hb hts hin7 hown hK hP hO_5.1 hO_5.2 rfl 1 (by decide) (hts (.fieldLink RX7 15 "HiddenMoves$Side" "numbers" "[I") (List.mem_cons_of_mem _ (List.mem_append_left _ (List.mem_of_getElem? (i := 5) rfl)))) (fun _ h9 => h9) rfl dX7_begin_11 ?_
  refine lv_iload_n hx hb dX7_begin_14 rfl (lv_at hl 0 rfl) ?_
  refine lv_iload_n hx hb dX7_begin_15 rfl (lv_at hl 2 rfl) ?_
  obtain ⟨hO_7, hw⟩ := hw
  obtain ⟨h9i, hw⟩ := hw
  refine cw_ist (v := y1) hx hb hK hP hD hS hO_7.1 hO_7.2.2 h9i hO_7.2.1 dX7_begin_16 (fun H locs hP hD hS => ?_)
  obtain ⟨A_8, hA_8⟩ : ∃ y : Nat → Nat → Int, y = hz_s A (r y0 1) x9_6 y1 := ⟨_, rfl⟩
  rw [← hA_8] at hP hD
  have hw := hw A_8 hA_8
  refine lv_aload_n hx hb dX7_begin_17 rfl (lv_at hl 1 rfl) ?_
  refine cw_get (ci := 7) (v := .ref (r y0 2)) hx hb hts hin7 hown hK hP hO_5.1 hO_5.2 rfl 2 (by decide) (hts (.fieldLink RX7 19 "HiddenMoves$Side" "moves" "[I") (List.mem_cons_of_mem _ (List.mem_append_left _ (List.mem_of_getElem? (i := 6) rfl)))) (fun _ h9 => h9) rfl dX7_begin_18 ?_
  refine lv_iload_n hx hb dX7_begin_21 rfl (lv_at hl 0 rfl) ?_
  refine lv_iconst (v := hz_i 0) hx hb dX7_begin_22 (by decide +kernel) ?_
  obtain ⟨hO_9, hw⟩ := hw
  obtain ⟨h9i, hw⟩ := hw
  refine cw_ist (v := 0) hx hb hK hP hD hS hO_9.1 hO_9.2.2 h9i hO_9.2.1 dX7_begin_23 (fun H locs hP hD hS => ?_)
  obtain ⟨A_10, hA_10⟩ : ∃ y : Nat → Nat → Int, y = hz_s A_8 (r y0 2) x9_6 0 := ⟨_, rfl⟩
  rw [← hA_10] at hP hD
  have hw := hw A_10 hA_10
  refine lv_aload_n hx hb dX7_begin_24 rfl (lv_at hl 1 rfl) ?_
  refine cw_get (ci := 7) (v := .ref (r y0 4)) hx hb hts hin7 hown hK hP hO_5.1 hO_5.2 rfl 4 (by decide) (hts (.fieldLink RX7 25 "HiddenMoves$Side" "deeds" "[I") (List.mem_cons_of_mem _ (List.mem_append_left _ (List.mem_of_getElem? (i := 7) rfl)))) (fun _ h9 => h9) rfl dX7_begin_25 ?_
  refine lv_iload_n hx hb dX7_begin_28 rfl (lv_at hl 0 rfl) ?_
  refine lv_iload_n hx hb dX7_begin_29 rfl (lv_at hl 3 rfl) ?_
  obtain ⟨hO_11, hw⟩ := hw
  obtain ⟨h9i, hw⟩ := hw
  refine cw_ist (v := y2) hx hb hK hP hD hS hO_11.1 hO_11.2.2 h9i hO_11.2.1 dX7_begin_30 (fun H locs hP hD hS => ?_)
  obtain ⟨A_12, hA_12⟩ : ∃ y : Nat → Nat → Int, y = hz_s A_10 (r y0 4) x9_6 y2 := ⟨_, rfl⟩
  rw [← hA_12] at hP hD
  have hw := hw A_12 hA_12
  refine lv_aload_n hx hb dX7_begin_31 rfl (lv_at hl 1 rfl) ?_
  refine cw_get (ci := 7) (v := .ref (r y0 3)) hx hb hts hin7 hown hK hP hO_5.1 hO_5.2 rfl 3 (by decide) (hts (.fieldLink RX7 22 "HiddenMoves$Side" "ownMoves" "[I") (List.mem_cons_of_mem _ (List.mem_append_left _ (List.mem_of_getElem? (i := 8) rfl)))) (fun _ h9 => h9) rfl dX7_begin_32 ?_
  refine lv_iload_n hx hb dX7_begin_35 rfl (lv_at hl 0 rfl) ?_
  refine lv_iload_n hx hb dX7_begin_36 rfl (lv_at hl 3 rfl) ?_
  refine lv_iconst (v := hz_i (-1)) hx hb dX7_begin_37 (by decide +kernel) ?_
  obtain ⟨h9a, hw⟩ := hw
  refine hz_icmp_ne (tgt := 45) hx hb dX7_begin_38 (by decide) h9a ⟨by decide, by decide⟩ (fun c_13 => ?_) (fun c_13 => ?_)
  · have hw := hw.1 c_13
    refine lv_aload_n hx hb dX7_begin_45 rfl (lv_at hl 1 rfl) ?_
    refine cw_get (ci := 7) (v := .ref (r y0 3)) hx hb hts hin7 hown hK hP hO_5.1 hO_5.2 rfl 3 (by decide) (hts (.fieldLink RX7 22 "HiddenMoves$Side" "ownMoves" "[I") (List.mem_cons_of_mem _ (List.mem_append_left _ (List.mem_of_getElem? (i := 8) rfl)))) (fun _ h9 => h9) rfl dX7_begin_46 ?_
    refine lv_iload_n hx hb dX7_begin_49 rfl (lv_at hl 3 rfl) ?_
    have hFc := cw_free hD hS hA
    refine va_calli (va_runS (As := [.int (hz_i y2)]) (rest := [.ref (r y0 3), .int (hz_i x9_6), .ref (r y0 3)]) ⟨hx, hb, hml, hown, hts⟩ (k_c7_setOf l D _ C L K z r A_12 y2 _ hw) (va_cwS 1 hts gX7_begin_X7_setOf rfl rfl rfl (by decide +kernel) ⟨Nat.le_of_ble_eq_true rfl, Nat.le_of_ble_eq_true rfl⟩) ⟨hm_blind, hm_pre hP hK hD hE⟩ rfl rfl hl.1 rfl (lv_room (Nat.le_of_ble_eq_true rfl)) dX7_begin_50 ⟨Nat.le_of_ble_eq_true rfl, Nat.le_of_ble_eq_true rfl⟩) hS (fun q _ h => hFc q h) hFc (fun rv u t H1 locs ht hvm hw hB hz1 hk1 hS => ?_)
    obtain ⟨rv_14, _, _, _⟩ := u
    obtain ⟨hP, hK1, hD1⟩ := hB
    rw [ht] at hP
    obtain ⟨hrv, hw⟩ := hw
    subst hrv
    have hD := hD1.weaken (fun k q _ h => hFc q.1 h)
    have hP : va_P D vwCl (cw_w C L K z r A_12) H1 := hP
    have hD : va_D Ad (cw_w C L K z r A_12) := hD
    generalize H1 = H at hP hS ⊢
    refine W.eq (g2 := F0 m 53 ls [.int (hz_i rv_14), .ref (r y0 3), .int (hz_i x9_6), .ref (r y0 3)]) rfl ?_
    obtain ⟨hO_15, hw⟩ := hw
    obtain ⟨h9i, hw⟩ := hw
    refine cw_ild hx hb hK hP hO_15.1 hO_15.2.2 h9i hO_15.2.1 dX7_begin_53 ?_
    refine lv_iconst (v := hz_i 1) hx hb dX7_begin_54 (by decide +kernel) ?_
    refine hz_iadd hx hb dX7_begin_55 ?_
    exact L56 z A_12 x9_6 ((A_12 (r y0 3) (rv_14.toNat)) + 1) x9_6 (r y0 3) hw H locs ls hP hD hS (lv_sub hl [1, 0] rfl)
  · have hw := hw.2 c_13
    refine lv_iconst (v := hz_i 0) hx hb dX7_begin_41 (by decide +kernel) ?_
    refine lv_goto (tgt := 56) hx hb dX7_begin_42 (by decide) ?_
    exact L56 z A_12 x9_6 0 x9_6 (r y0 3) hw H locs ls hP hD hS (lv_sub hl [1, 0] rfl)

noncomputable def wp_c5_enterSet_37 (L : List Nat) (K : Nat → cw_K) (z : Nat → Nat → Int) (r : Nat → Nat → Nat) (A : Nat → Nat → Int) (y0 : Nat) (y1 : Nat) (y2 : Int) (y3 : Int) (y5 : Int) (x6 : Int) (Q : Int → (Nat → Nat → Int) → (Nat → Nat → Int) → Prop) : Prop := hz_rL y3 ∧ ((y3 < 1000000000 → hz_rI x6 ∧ ((¬ x6 = (-1) → cw_O L K 7 y1 ∧ cw_A L K 0 (r y1 4) ∧ ((0 : Int) ≤ x6 ∧ x6 < (cw_n K (r y1 4) : Int)) ∧ hz_rI (A (r y1 4) (x6.toNat)) ∧ hz_rI y5 ∧ ((A (r y1 4) (x6.toNat) = y5 → Q x6 z A) ∧ (¬ (A (r y1 4) (x6.toNat) = y5) → cw_O L K 5 y0 ∧ wp_c5_refuse L K z r A y0 4 y2 (fun rv_6 z_7 => Q (-1) z_7 A)))) ∧ (x6 = (-1) → cw_O L K 5 y0 ∧ cw_O L K 10 (r y0 2) ∧ cw_O L K 7 y1 ∧ wp_c7_begin L K z r A y1 (z (r y0 2) 4) y5 (fun rv_11 z_12 A_13 => Q rv_11 z_12 A_13)))) ∧ (¬ (y3 < 1000000000) → cw_O L K 5 y0 ∧ wp_c5_refuse L K z r A y0 6 y2 (fun rv_15 z_16 => Q (-1) z_16 A)))
noncomputable def wp_c5_enterSet (L : List Nat) (K : Nat → cw_K) (z : Nat → Nat → Int) (r : Nat → Nat → Nat) (A : Nat → Nat → Int) (y0 : Nat) (y1 : Nat) (y2 : Int) (y3 : Int) (y5 : Int) (Q : Int → (Nat → Nat → Int) → (Nat → Nat → Int) → Prop) : Prop := cw_O L K 5 y0 ∧ cw_O L K 10 (r y0 2) ∧ cw_O L K 7 y1 ∧ wp_c7_find L K z r A y1 (z (r y0 2) 4) (fun rv_20 => hz_rI rv_20 ∧ ((¬ rv_20 = (-1) → wp_c5_enterSet_37 L K z r A y0 y1 y2 y3 y5 rv_20  Q) ∧ (rv_20 = (-1) → hz_rI (z y1 0) ∧ ((z y1 0 < 10 → wp_c5_enterSet_37 L K z r A y0 y1 y2 y3 y5 rv_20  Q) ∧ (¬ (z y1 0 < 10) → wp_c5_refuse L K z r A y0 2 y2 (fun rv_24 z_25 => Q (-1) z_25 A))))))
set_option maxHeartbeats 4000000 in
set_option maxRecDepth 100000 in
theorem k_c5_enterSet (l : Launch) (D : va_G) (sz : Nat) (C : Nat → ClassId) (L : List Nat) (K : Nat → cw_K) (z : Nat → Nat → Int) (r : Nat → Nat → Nat) (A : Nat → Nat → Int) (y0 : Nat) (y1 : Nat) (y2 : Int) (y3 : Int) (y5 : Int) (Q : Int → (Nat → Nat → Int) → (Nat → Nat → Int) → Prop) (hw : wp_c5_enterSet L K z r A y0 y1 y2 y3 y5 Q) : Met l yX5_enterSet wsX5_enterSet ({ frames := 2, cells := 0, slots := 0, locals := 43 } : Room) (va_Pc [.ref y0, .ref y1, .int (hz_i y2), .long (hz_l y3), .int (hz_i y5)] (hm_P D (cw_w C L K z r A) (cw_t C) sz)) (va_Qi (S := Int × (Nat → Nat → Int) × (Nat → Nat → Nat) × (Nat → Nat → Int)) (fun r u => r = hz_i u.1 ∧ Q u.1 u.2.1 u.2.2.2) (fun u t => hm_B D (va_A (cw_w C L K z r A) sz) (cw_w C L K u.2.1 r u.2.2.2) (cw_t C) t) (va_A (cw_w C L K z r A) sz)) 0 0 (va_A (cw_w C L K z r A) sz) := by
  refine Met.ofW (cc := cX5_enterSet) (maxL := 7) (ret := (some .int)) (by decide) rfl ?_
  intro p e s m args below meth c s₁ B hml hv
  obtain ⟨rfl, hsz, hP, hK, hD0, hE⟩ := hv
  have hx := B.exec
  have hb := B.bytes
  have hr := B.returns
  have hts := atoms_spec (ws := wsX5_enterSet) B.pre
  have hown : s.vm.findClass RX5 = some m.cls := findClass_of_methodNamed B.named
  have hlocks := B.notSynchronized
  have hin5 : ∀ w ∈ u_ws RX5 TX5 13, w ∈ wsX5_enterSet := fun w h => List.mem_cons_of_mem _ (List.mem_append_left _ (List.mem_append_left _ (List.mem_append_right _ (h))))
  have hin7 : ∀ w ∈ u_ws RX7 TX7 8, w ∈ wsX5_enterSet := fun w h => List.mem_cons_of_mem _ (List.mem_append_right _ (h))
  have hin10 : ∀ w ∈ u_ws RX10 TX10 6, w ∈ wsX5_enterSet := fun w h => List.mem_cons_of_mem _ (List.mem_append_left _ (List.mem_append_right _ (h)))
  subst hsz
  have hD := hD0.self (sz := s.heap.size)
  generalize hAe : va_A (cw_w C L K z r A) s.heap.size = Ad at hD ⊢
  have hA : ∀ q : Nat, s.heap.size ≤ q → Ad q := fun q h => by rw [← hAe]; exact Or.inr h
  have hS : va_S Ad s.heap s.heap [] := va_S.rf
  have hl := lv_entry ([.ref y0, .ref y1, .int (hz_i y2), .long (hz_l y3), .int (hz_i y5)]) (n := 7) (Nat.le_of_ble_eq_true rfl)
  rw [lg_entry_eq]
  generalize (lg_sl ([.ref y0, .ref y1, .int (hz_i y2), .long (hz_l y3), .int (hz_i y5)]) ++ List.replicate (7 - (lg_sl ([.ref y0, .ref y1, .int (hz_i y2), .long (hz_l y3), .int (hz_i y5)])).length) Slot.unset).toArray = ls at hl ⊢
  have hl : lv_has ls 7 [(0, .ref y0), (1, .ref y1), (2, .int (hz_i y2)), (3, .long (hz_l y3)), (5, .int (hz_i y5))] := hl
  refine mw_Q (fun QQ hQQ => ?_)
  have hP0 := hP; have hD0 := hD; have hS0 := hS; have hl0 := hl; have hw0 := hw
  clear hP hD hS hl hw
  have L37 : ∀ (z : Nat → Nat → Int) (A : Nat → Nat → Int) (x6 : Int), wp_c5_enterSet_37 L K z r A y0 y1 y2 y3 y5 x6  Q → ∀ (H : Heap) (locs : List Loc) (ls : Array Slot), va_P D vwCl (cw_w C L K z r A) H → va_D Ad (cw_w C L K z r A) → va_S Ad s.heap H locs → lv_has ls 7 [(0, .ref y0), (1, .ref y1), (2, .int (hz_i y2)), (3, .long (hz_l y3)), (5, .int (hz_i y5)), (6, .int (hz_i x6))] → W p l e (headSpec wsX5_enterSet ({ frames := 2, cells := 0, slots := 0, locals := 43 } : Room)).room s m (List.toArray [.ref y0, .ref y1, .int (hz_i y2), .long (hz_l y3), .int (hz_i y5)]) below meth c H locs 0 0 QQ (F0 m 37 ls []) := by
    intro z A x6 hw H locs ls hP hD hS hl
    refine lv_lload_n hx hb dX5_enterSet_37 rfl (lv_at hl 3 rfl) ?_
    refine lv_ldc2 hx hb hown (hts (.constantLong RX5 124 (1000000000)) (List.mem_cons_of_mem _ (List.mem_append_left _ (List.mem_append_left _ (List.mem_append_left _ (List.mem_append_left _ (List.mem_of_getElem? (i := 3) rfl))))))) dX5_enterSet_38 ?_
    refine hz_asl (b := 1000000000) (by decide +kernel) ?_
    obtain ⟨h9a, hw⟩ := hw
    refine hz_lcmp_lt (tgt := 55) hx hb dX5_enterSet_41 dX5_enterSet_42 (by decide) h9a ⟨by decide, by decide⟩ (fun c_1 => ?_) (fun c_1 => ?_)
    · have hw := hw.1 c_1
      refine lv_iload hx hb dX5_enterSet_55 (lv_at hl 5 rfl) ?_
      refine lv_iconst (v := hz_i (-1)) hx hb dX5_enterSet_57 (by decide +kernel) ?_
      obtain ⟨h9a, hw⟩ := hw
      refine hz_icmp_ne (tgt := 75) hx hb dX5_enterSet_58 (by decide) h9a ⟨by decide, by decide⟩ (fun c_2 => ?_) (fun c_2 => ?_)
      · have hw := hw.1 c_2
        refine lv_aload_n hx hb dX5_enterSet_75 rfl (lv_at hl 1 rfl) ?_
        obtain ⟨hO_3, hw⟩ := hw
        refine cw_get (ci := 7) (v := .ref (r y1 4)) hx hb hts hin7 hown hK hP hO_3.1 hO_3.2 rfl 4 (by decide) (hts (.fieldLink RX5 178 "HiddenMoves$Side" "deeds" "[I") (List.mem_cons_of_mem _ (List.mem_append_left _ (List.mem_append_left _ (List.mem_append_left _ (List.mem_append_left _ (List.mem_of_getElem? (i := 4) rfl))))))) (fun _ h9 => h9) rfl dX5_enterSet_76 ?_
        refine lv_iload hx hb dX5_enterSet_79 (lv_at hl 5 rfl) ?_
        obtain ⟨hO_4, hw⟩ := hw
        obtain ⟨h9i, hw⟩ := hw
        refine cw_ild hx hb hK hP hO_4.1 hO_4.2.2 h9i hO_4.2.1 dX5_enterSet_81 ?_
        refine lv_iload hx hb dX5_enterSet_82 (lv_at hl 4 rfl) ?_
        obtain ⟨h9a, hw⟩ := hw
        obtain ⟨h9b, hw⟩ := hw
        refine hz_icmp_eq (tgt := 96) hx hb dX5_enterSet_84 (by decide) h9a h9b (fun c_5 => ?_) (fun c_5 => ?_)
        · have hw := hw.1 c_5
          refine lv_iload hx hb dX5_enterSet_96 (lv_at hl 5 rfl) ?_
          subst hQQ
          subst hAe
          exact W.iret (v := hz_i x6) hx hb hr (fun t ht hW => ⟨⟨hz_i x6, (x6, z, r, A), rfl, ⟨rfl, hw⟩, by rw [ht]; exact hP, va_K.moved hW.alike hK, hD⟩, hS.F ht⟩) hS.2.2 dX5_enterSet_98
        · have hw := hw.2 c_5
          refine lv_aload_n hx hb dX5_enterSet_87 rfl (lv_at hl 0 rfl) ?_
          refine lv_iconst (v := hz_i 4) hx hb dX5_enterSet_88 (by decide +kernel) ?_
          refine lv_iload_n hx hb dX5_enterSet_89 rfl (lv_at hl 2 rfl) ?_
          obtain ⟨hO_8, hw⟩ := hw
          have hFc := cw_free hD hS hA
          obtain ⟨q9, hq9⟩ := cw_at (C := C) (z := z) (r := r) (A := A) hO_8.1 hO_8.2
          refine va_calli (va_runV (As := [.int (hz_i 4), .int (hz_i y2)]) (rest := []) ⟨hx, hb, hml, hown, hts⟩ (k_c5_refuse l D _ C L K z r A y0 4 y2 _ hw) (cwV 2 hts gX5_enterSet_X5_refuse rfl rfl rfl (by decide +kernel) ⟨Nat.le_of_ble_eq_true rfl, Nat.le_of_ble_eq_true rfl⟩) ⟨hm_blind, va_recv hK hP (ci := 5) (q0 := q9) rfl hq9, hm_pre hP hK hD hE⟩ rfl rfl hl.1 rfl (lv_room (Nat.le_of_ble_eq_true rfl)) dX5_enterSet_90 ⟨Nat.le_of_ble_eq_true rfl, Nat.le_of_ble_eq_true rfl⟩) hS (fun q _ h => hFc q h) hFc (fun rv u t H1 locs ht hvm hw hB hz1 hk1 hS => ?_)
          obtain ⟨rv_6, z_7, _, _⟩ := u
          obtain ⟨hP, hK1, hD1⟩ := hB
          rw [ht] at hP
          obtain ⟨hrv, hw⟩ := hw
          subst hrv
          have hD := hD1.weaken (fun k q _ h => hFc q.1 h)
          have hP : va_P D vwCl (cw_w C L K z_7 r A) H1 := hP
          have hD : va_D Ad (cw_w C L K z_7 r A) := hD
          generalize H1 = H at hP hS ⊢
          refine W.eq (g2 := F0 m 93 ls [.int (hz_i rv_6)]) rfl ?_
          refine lv_pop hx hb dX5_enterSet_93 rfl ?_
          refine lv_iconst (v := hz_i (-1)) hx hb dX5_enterSet_94 (by decide +kernel) ?_
          subst hQQ
          subst hAe
          exact W.iret (v := hz_i (-1)) hx hb hr (fun t ht hW => ⟨⟨hz_i (-1), ((-1), z_7, r, A), rfl, ⟨rfl, hw⟩, by rw [ht]; exact hP, va_K.moved hW.alike hK, hD⟩, hS.F ht⟩) hS.2.2 dX5_enterSet_95
      · have hw := hw.2 c_2
        refine lv_aload_n hx hb dX5_enterSet_61 rfl (lv_at hl 1 rfl) ?_
        refine lv_aload_n hx hb dX5_enterSet_62 rfl (lv_at hl 0 rfl) ?_
        obtain ⟨hO_9, hw⟩ := hw
        refine cw_get (ci := 5) (v := .ref (r y0 2)) hx hb hts hin5 hown hK hP hO_9.1 hO_9.2 rfl 2 (by decide) (hts (.fieldLink RX5 21 "HiddenMoves$Reader" "words" "LHiddenMoves$Words;") (List.mem_cons_of_mem _ (List.mem_append_left _ (List.mem_append_left _ (List.mem_append_left _ (List.mem_append_left _ (List.mem_of_getElem? (i := 0) rfl))))))) (fun _ h9 => h9) rfl dX5_enterSet_63 ?_
        obtain ⟨hO_10, hw⟩ := hw
        refine cw_get (ci := 10) (v := .int (hz_i (z (r y0 2) 4))) hx hb hts hin10 hown hK hP hO_10.1 hO_10.2 rfl 4 (by decide) (hts (.fieldLink RX5 143 "HiddenMoves$Words" "value" "I") (List.mem_cons_of_mem _ (List.mem_append_left _ (List.mem_append_left _ (List.mem_append_left _ (List.mem_append_left _ (List.mem_of_getElem? (i := 1) rfl))))))) (fun _ h9 => h9) rfl dX5_enterSet_66 ?_
        refine lv_iload hx hb dX5_enterSet_69 (lv_at hl 4 rfl) ?_
        obtain ⟨hO_14, hw⟩ := hw
        have hFc := cw_free hD hS hA
        obtain ⟨q9, hq9⟩ := cw_at (C := C) (z := z) (r := r) (A := A) hO_14.1 hO_14.2
        refine va_calli (va_runV (As := [.int (hz_i (z (r y0 2) 4)), .int (hz_i y5)]) (rest := []) ⟨hx, hb, hml, hown, hts⟩ (k_c7_begin l D _ C L K z r A y1 (z (r y0 2) 4) y5 _ hw) (cwV 2 hts gX5_enterSet_X7_begin rfl rfl rfl (by decide +kernel) ⟨Nat.le_of_ble_eq_true rfl, Nat.le_of_ble_eq_true rfl⟩) ⟨hm_blind, va_recv hK hP (ci := 7) (q0 := q9) rfl hq9, hm_pre hP hK hD hE⟩ rfl rfl hl.1 rfl (lv_room (Nat.le_of_ble_eq_true rfl)) dX5_enterSet_71 ⟨Nat.le_of_ble_eq_true rfl, Nat.le_of_ble_eq_true rfl⟩) hS (fun q _ h => hFc q h) hFc (fun rv u t H1 locs ht hvm hw hB hz1 hk1 hS => ?_)
        obtain ⟨rv_11, z_12, _, A_13⟩ := u
        obtain ⟨hP, hK1, hD1⟩ := hB
        rw [ht] at hP
        obtain ⟨hrv, hw⟩ := hw
        subst hrv
        have hD := hD1.weaken (fun k q _ h => hFc q.1 h)
        have hP : va_P D vwCl (cw_w C L K z_12 r A_13) H1 := hP
        have hD : va_D Ad (cw_w C L K z_12 r A_13) := hD
        generalize H1 = H at hP hS ⊢
        refine W.eq (g2 := F0 m 74 ls [.int (hz_i rv_11)]) rfl ?_
        subst hQQ
        subst hAe
        exact W.iret (v := hz_i rv_11) hx hb hr (fun t ht hW => ⟨⟨hz_i rv_11, (rv_11, z_12, r, A_13), rfl, ⟨rfl, hw⟩, by rw [ht]; exact hP, va_K.moved hW.alike hK, hD⟩, hS.F ht⟩) hS.2.2 dX5_enterSet_74
    · have hw := hw.2 c_1
      refine lv_aload_n hx hb dX5_enterSet_45 rfl (lv_at hl 0 rfl) ?_
      refine lv_bipush (v := hz_i 6) hx hb dX5_enterSet_46 (by decide +kernel) ?_
      refine lv_iload_n hx hb dX5_enterSet_48 rfl (lv_at hl 2 rfl) ?_
      obtain ⟨hO_17, hw⟩ := hw
      have hFc := cw_free hD hS hA
      obtain ⟨q9, hq9⟩ := cw_at (C := C) (z := z) (r := r) (A := A) hO_17.1 hO_17.2
      refine va_calli (va_runV (As := [.int (hz_i 6), .int (hz_i y2)]) (rest := []) ⟨hx, hb, hml, hown, hts⟩ (k_c5_refuse l D _ C L K z r A y0 6 y2 _ hw) (cwV 2 hts gX5_enterSet_X5_refuse rfl rfl rfl (by decide +kernel) ⟨Nat.le_of_ble_eq_true rfl, Nat.le_of_ble_eq_true rfl⟩) ⟨hm_blind, va_recv hK hP (ci := 5) (q0 := q9) rfl hq9, hm_pre hP hK hD hE⟩ rfl rfl hl.1 rfl (lv_room (Nat.le_of_ble_eq_true rfl)) dX5_enterSet_49 ⟨Nat.le_of_ble_eq_true rfl, Nat.le_of_ble_eq_true rfl⟩) hS (fun q _ h => hFc q h) hFc (fun rv u t H1 locs ht hvm hw hB hz1 hk1 hS => ?_)
      obtain ⟨rv_15, z_16, _, _⟩ := u
      obtain ⟨hP, hK1, hD1⟩ := hB
      rw [ht] at hP
      obtain ⟨hrv, hw⟩ := hw
      subst hrv
      have hD := hD1.weaken (fun k q _ h => hFc q.1 h)
      have hP : va_P D vwCl (cw_w C L K z_16 r A) H1 := hP
      have hD : va_D Ad (cw_w C L K z_16 r A) := hD
      generalize H1 = H at hP hS ⊢
      refine W.eq (g2 := F0 m 52 ls [.int (hz_i rv_15)]) rfl ?_
      refine lv_pop hx hb dX5_enterSet_52 rfl ?_
      refine lv_iconst (v := hz_i (-1)) hx hb dX5_enterSet_53 (by decide +kernel) ?_
      subst hQQ
      subst hAe
      exact W.iret (v := hz_i (-1)) hx hb hr (fun t ht hW => ⟨⟨hz_i (-1), ((-1), z_16, r, A), rfl, ⟨rfl, hw⟩, by rw [ht]; exact hP, va_K.moved hW.alike hK, hD⟩, hS.F ht⟩) hS.2.2 dX5_enterSet_54
  have hP := hP0; have hD := hD0; have hS := hS0; have hl := hl0; have hw := hw0
  obtain ⟨H, hH⟩ : ∃ H : Heap, H = s.heap := ⟨_, rfl⟩
  obtain ⟨locs, hlocs⟩ : ∃ L : List Loc, L = [] := ⟨_, rfl⟩
  rw [← hH] at hP
  have hS : va_S Ad s.heap H locs := by rw [hH, hlocs]; exact hS
  refine mw_HL hH hlocs ?_
  refine lv_aload_n hx hb dX5_enterSet_0 rfl (lv_at hl 1 rfl) ?_
  refine lv_aload_n hx hb dX5_enterSet_1 rfl (lv_at hl 0 rfl) ?_
  obtain ⟨hO_18, hw⟩ := hw
  refine cw_get (ci := 5) (v := .ref (r y0 2)) hx hb hts hin5 hown hK hP hO_18.1 hO_18.2 rfl 2 (by decide) (hts (.fieldLink RX5 21 "HiddenMoves$Reader" "words" "LHiddenMoves$Words;") (List.mem_cons_of_mem _ (List.mem_append_left _ (List.mem_append_left _ (List.mem_append_left _ (List.mem_append_left _ (List.mem_of_getElem? (i := 0) rfl))))))) (fun _ h9 => h9) rfl dX5_enterSet_2 ?_
  obtain ⟨hO_19, hw⟩ := hw
  refine cw_get (ci := 10) (v := .int (hz_i (z (r y0 2) 4))) hx hb hts hin10 hown hK hP hO_19.1 hO_19.2 rfl 4 (by decide) (hts (.fieldLink RX5 143 "HiddenMoves$Words" "value" "I") (List.mem_cons_of_mem _ (List.mem_append_left _ (List.mem_append_left _ (List.mem_append_left _ (List.mem_append_left _ (List.mem_of_getElem? (i := 1) rfl))))))) (fun _ h9 => h9) rfl dX5_enterSet_5 ?_
  obtain ⟨hO_21, hw⟩ := hw
  have hFc := cw_free hD hS hA
  obtain ⟨q9, hq9⟩ := cw_at (C := C) (z := z) (r := r) (A := A) hO_21.1 hO_21.2
  refine va_calli (va_runV (As := [.int (hz_i (z (r y0 2) 4))]) (rest := []) ⟨hx, hb, hml, hown, hts⟩ (k_c7_find l D _ C L K z r A y1 (z (r y0 2) 4) _ hw) (cwV 1 hts gX5_enterSet_X7_find rfl rfl rfl (by decide +kernel) ⟨Nat.le_of_ble_eq_true rfl, Nat.le_of_ble_eq_true rfl⟩) ⟨hm_blind, va_recv hK hP (ci := 7) (q0 := q9) rfl hq9, hm_pre hP hK hD hE⟩ rfl rfl hl.1 rfl (lv_room (Nat.le_of_ble_eq_true rfl)) dX5_enterSet_8 ⟨Nat.le_of_ble_eq_true rfl, Nat.le_of_ble_eq_true rfl⟩) hS (fun q _ h => hFc q h) hFc (fun rv u t H1 locs ht hvm hw hB hz1 hk1 hS => ?_)
  obtain ⟨rv_20, _, _, _⟩ := u
  obtain ⟨hP, hK1, hD1⟩ := hB
  rw [ht] at hP
  obtain ⟨hrv, hw⟩ := hw
  subst hrv
  have hD := hD1.weaken (fun k q _ h => hFc q.1 h)
  have hP : va_P D vwCl (cw_w C L K z r A) H1 := hP
  have hD : va_D Ad (cw_w C L K z r A) := hD
  generalize H1 = H at hP hS ⊢
  refine W.eq (g2 := F0 m 11 ls [.int (hz_i rv_20)]) rfl ?_
  refine lv_istore (lv' := [(6, .int (hz_i rv_20)), (0, .ref y0), (1, .ref y1), (2, .int (hz_i y2)), (3, .long (hz_l y3)), (5, .int (hz_i y5))]) hx hb dX5_enterSet_11 hl (by decide) rfl (fun ls hl => ?_)
  refine lv_iload hx hb dX5_enterSet_13 (lv_at hl 0 rfl) ?_
  refine lv_iconst (v := hz_i (-1)) hx hb dX5_enterSet_15 (by decide +kernel) ?_
  obtain ⟨h9a, hw⟩ := hw
  refine hz_icmp_ne (tgt := 37) hx hb dX5_enterSet_16 (by decide) h9a ⟨by decide, by decide⟩ (fun c_22 => ?_) (fun c_22 => ?_)
  · have hw := hw.1 c_22
    exact L37 z A rv_20 hw H locs ls hP hD hS (lv_sub hl [1, 2, 3, 4, 5, 0] rfl)
  · have hw := hw.2 c_22
    refine lv_aload_n hx hb dX5_enterSet_19 rfl (lv_at hl 2 rfl) ?_
    refine cw_get (ci := 7) (v := .int (hz_i (z y1 0))) hx hb hts hin7 hown hK hP hO_21.1 hO_21.2 rfl 0 (by decide) (hts (.fieldLink RX5 173 "HiddenMoves$Side" "sets" "I") (List.mem_cons_of_mem _ (List.mem_append_left _ (List.mem_append_left _ (List.mem_append_left _ (List.mem_append_left _ (List.mem_of_getElem? (i := 2) rfl))))))) (fun _ h9 => h9) rfl dX5_enterSet_20 ?_
    refine lv_bipush (v := hz_i 10) hx hb dX5_enterSet_23 (by decide +kernel) ?_
    obtain ⟨h9a, hw⟩ := hw
    refine hz_icmp_lt (tgt := 37) hx hb dX5_enterSet_25 (by decide) h9a ⟨by decide, by decide⟩ (fun c_23 => ?_) (fun c_23 => ?_)
    · have hw := hw.1 c_23
      exact L37 z A rv_20 hw H locs ls hP hD hS (lv_sub hl [1, 2, 3, 4, 5, 0] rfl)
    · have hw := hw.2 c_23
      refine lv_aload_n hx hb dX5_enterSet_28 rfl (lv_at hl 1 rfl) ?_
      refine lv_iconst (v := hz_i 2) hx hb dX5_enterSet_29 (by decide +kernel) ?_
      refine lv_iload_n hx hb dX5_enterSet_30 rfl (lv_at hl 3 rfl) ?_
      have hFc := cw_free hD hS hA
      obtain ⟨q9, hq9⟩ := cw_at (C := C) (z := z) (r := r) (A := A) hO_18.1 hO_18.2
      refine va_calli (va_runV (As := [.int (hz_i 2), .int (hz_i y2)]) (rest := []) ⟨hx, hb, hml, hown, hts⟩ (k_c5_refuse l D _ C L K z r A y0 2 y2 _ hw) (cwV 2 hts gX5_enterSet_X5_refuse rfl rfl rfl (by decide +kernel) ⟨Nat.le_of_ble_eq_true rfl, Nat.le_of_ble_eq_true rfl⟩) ⟨hm_blind, va_recv hK hP (ci := 5) (q0 := q9) rfl hq9, hm_pre hP hK hD hE⟩ rfl rfl hl.1 rfl (lv_room (Nat.le_of_ble_eq_true rfl)) dX5_enterSet_31 ⟨Nat.le_of_ble_eq_true rfl, Nat.le_of_ble_eq_true rfl⟩) hS (fun q _ h => hFc q h) hFc (fun rv u t H1 locs ht hvm hw hB hz1 hk1 hS => ?_)
      obtain ⟨rv_24, z_25, _, _⟩ := u
      obtain ⟨hP, hK1, hD1⟩ := hB
      rw [ht] at hP
      obtain ⟨hrv, hw⟩ := hw
      subst hrv
      have hD := hD1.weaken (fun k q _ h => hFc q.1 h)
      have hP : va_P D vwCl (cw_w C L K z_25 r A) H1 := hP
      have hD : va_D Ad (cw_w C L K z_25 r A) := hD
      generalize H1 = H at hP hS ⊢
      refine W.eq (g2 := F0 m 34 ls [.int (hz_i rv_24)]) rfl ?_
      refine lv_pop hx hb dX5_enterSet_34 rfl ?_
      refine lv_iconst (v := hz_i (-1)) hx hb dX5_enterSet_35 (by decide +kernel) ?_
      subst hQQ
      subst hAe
      exact W.iret (v := hz_i (-1)) hx hb hr (fun t ht hW => ⟨⟨hz_i (-1), ((-1), z_25, r, A), rfl, ⟨rfl, hw⟩, by rw [ht]; exact hP, va_K.moved hW.alike hK, hD⟩, hS.F ht⟩) hS.2.2 dX5_enterSet_36

noncomputable def wp_c5_endChoice_55 (L : List Nat) (K : Nat → cw_K) (z : Nat → Nat → Int) (r : Nat → Nat → Nat) (A : Nat → Nat → Int) (t0 : Int) (Q : Int → (Nat → Nat → Int) → (Nat → Nat → Int) → Prop) : Prop := (t0 = 0 ∨ t0 = 1) ∧ Q t0 z A
noncomputable def wp_c5_endChoice_50 (L : List Nat) (K : Nat → cw_K) (z : Nat → Nat → Int) (r : Nat → Nat → Nat) (A : Nat → Nat → Int) (Q : Int → (Nat → Nat → Int) → (Nat → Nat → Int) → Prop) : Prop := wp_c5_endChoice_55 L K z r A 1  Q
noncomputable def wp_c5_endChoice_30 (L : List Nat) (K : Nat → cw_K) (z : Nat → Nat → Int) (r : Nat → Nat → Nat) (A : Nat → Nat → Int) (y0 : Nat) (y1 : Int) (y2 : Nat) (y3 : Int) (y4 : Int) (Q : Int → (Nat → Nat → Int) → (Nat → Nat → Int) → Prop) : Prop := cw_O L K 7 y2 ∧ cw_A L K 0 (r y2 2) ∧ ((0 : Int) ≤ y3 ∧ y3 < (cw_n K (r y2 2) : Int)) ∧ hz_rI (A (r y2 2) (y3.toNat)) ∧ hz_rI y4 ∧ ((A (r y2 2) (y3.toNat) = y4 → wp_c5_endChoice_50 L K z r A  Q) ∧ (¬ (A (r y2 2) (y3.toNat) = y4) → cw_O L K 5 y0 ∧ wp_c5_refuse L K z r A y0 5 y1 (fun rv_4 z_5 => hz_rI rv_4 ∧ ((rv_4 = 0 → wp_c5_endChoice_55 L K z_5 r A 0  Q) ∧ (¬ (rv_4 = 0) → wp_c5_endChoice_50 L K z_5 r A  Q)))))
noncomputable def wp_c5_endChoice (L : List Nat) (K : Nat → cw_K) (z : Nat → Nat → Int) (r : Nat → Nat → Nat) (A : Nat → Nat → Int) (y0 : Nat) (y1 : Int) (y2 : Nat) (y3 : Int) (y4 : Int) (Q : Int → (Nat → Nat → Int) → (Nat → Nat → Int) → Prop) : Prop := hz_rI y4 ∧ ((y4 ≤ 4 → cw_O L K 7 y2 ∧ cw_A L K 0 (r y2 2) ∧ ((0 : Int) ≤ y3 ∧ y3 < (cw_n K (r y2 2) : Int)) ∧ hz_rI (A (r y2 2) (y3.toNat)) ∧ ((¬ A (r y2 2) (y3.toNat) = 0 → wp_c5_endChoice_30 L K z r A y0 y1 y2 y3 y4  Q) ∧ (A (r y2 2) (y3.toNat) = 0 → ((0 : Int) ≤ y3 ∧ y3 < (cw_n K (r y2 2) : Int)) ∧ ∀ A_12 : Nat → Nat → Int, A_12 = hz_s A (r y2 2) y3 y4 → wp_c5_endChoice_30 L K z r A_12 y0 y1 y2 y3 y4  Q))) ∧ (¬ (y4 ≤ 4) → cw_O L K 5 y0 ∧ wp_c5_refuse L K z r A y0 2 y1 (fun rv_13 z_14 => (rv_13 = 0 ∨ rv_13 = 1) ∧ Q rv_13 z_14 A)))
set_option maxHeartbeats 4000000 in
set_option maxRecDepth 100000 in
theorem k_c5_endChoice (l : Launch) (D : va_G) (sz : Nat) (C : Nat → ClassId) (L : List Nat) (K : Nat → cw_K) (z : Nat → Nat → Int) (r : Nat → Nat → Nat) (A : Nat → Nat → Int) (y0 : Nat) (y1 : Int) (y2 : Nat) (y3 : Int) (y4 : Int) (Q : Int → (Nat → Nat → Int) → (Nat → Nat → Int) → Prop) (hw : wp_c5_endChoice L K z r A y0 y1 y2 y3 y4 Q) : Met l yX5_endChoice wsX5_endChoice ({ frames := 1, cells := 0, slots := 0, locals := 22 } : Room) (va_Pc [.ref y0, .int (hz_i y1), .ref y2, .int (hz_i y3), .int (hz_i y4)] (hm_P D (cw_w C L K z r A) (cw_t C) sz)) (va_Qi (S := Int × (Nat → Nat → Int) × (Nat → Nat → Nat) × (Nat → Nat → Int)) (fun r u => r = hz_i u.1 ∧ Q u.1 u.2.1 u.2.2.2) (fun u t => hm_B D (va_A (cw_w C L K z r A) sz) (cw_w C L K u.2.1 r u.2.2.2) (cw_t C) t) (va_A (cw_w C L K z r A) sz)) 0 0 (va_A (cw_w C L K z r A) sz) := by
  refine Met.ofW (cc := cX5_endChoice) (maxL := 5) (ret := (some .boolean)) (by decide) rfl ?_
  intro p e s m args below meth c s₁ B hml hv
  obtain ⟨rfl, hsz, hP, hK, hD0, hE⟩ := hv
  have hx := B.exec
  have hb := B.bytes
  have hr := B.returns
  have hts := atoms_spec (ws := wsX5_endChoice) B.pre
  have hown : s.vm.findClass RX5 = some m.cls := findClass_of_methodNamed B.named
  have hlocks := B.notSynchronized
  have hin7 : ∀ w ∈ u_ws RX7 TX7 8, w ∈ wsX5_endChoice := fun w h => List.mem_cons_of_mem _ (List.mem_append_left _ (List.mem_append_right _ (h)))
  subst hsz
  have hD := hD0.self (sz := s.heap.size)
  generalize hAe : va_A (cw_w C L K z r A) s.heap.size = Ad at hD ⊢
  have hA : ∀ q : Nat, s.heap.size ≤ q → Ad q := fun q h => by rw [← hAe]; exact Or.inr h
  have hS : va_S Ad s.heap s.heap [] := va_S.rf
  have hl := lv_entry ([.ref y0, .int (hz_i y1), .ref y2, .int (hz_i y3), .int (hz_i y4)]) (n := 5) (Nat.le_of_ble_eq_true rfl)
  rw [lg_entry_eq]
  generalize (lg_sl ([.ref y0, .int (hz_i y1), .ref y2, .int (hz_i y3), .int (hz_i y4)]) ++ List.replicate (5 - (lg_sl ([.ref y0, .int (hz_i y1), .ref y2, .int (hz_i y3), .int (hz_i y4)])).length) Slot.unset).toArray = ls at hl ⊢
  have hl : lv_has ls 5 [(0, .ref y0), (1, .int (hz_i y1)), (2, .ref y2), (3, .int (hz_i y3)), (4, .int (hz_i y4))] := hl
  refine mw_Q (fun QQ hQQ => ?_)
  have hP0 := hP; have hD0 := hD; have hS0 := hS; have hl0 := hl; have hw0 := hw
  clear hP hD hS hl hw
  have L55 : ∀ (z : Nat → Nat → Int) (A : Nat → Nat → Int) (t0 : Int), wp_c5_endChoice_55 L K z r A t0  Q → ∀ (H : Heap) (locs : List Loc) (ls : Array Slot), va_P D vwCl (cw_w C L K z r A) H → va_D Ad (cw_w C L K z r A) → va_S Ad s.heap H locs → lv_has ls 5 [] → W p l e (headSpec wsX5_endChoice ({ frames := 1, cells := 0, slots := 0, locals := 22 } : Room)).room s m (List.toArray [.ref y0, .int (hz_i y1), .ref y2, .int (hz_i y3), .int (hz_i y4)]) below meth c H locs 0 0 QQ (F0 m 55 ls [.int (hz_i t0)]) := by
    intro z A t0 hw H locs ls hP hD hS hl
    obtain ⟨h9z, hw⟩ := hw
    subst hQQ
    subst hAe
    exact W.zret (v := hz_i t0) hx hb hr (hz_tZ h9z) (fun t ht hW => ⟨⟨hz_i t0, (t0, z, r, A), rfl, ⟨rfl, hw⟩, by rw [ht]; exact hP, va_K.moved hW.alike hK, hD⟩, hS.F ht⟩) hS.2.2 dX5_endChoice_55
  have L50 : ∀ (z : Nat → Nat → Int) (A : Nat → Nat → Int), wp_c5_endChoice_50 L K z r A  Q → ∀ (H : Heap) (locs : List Loc) (ls : Array Slot), va_P D vwCl (cw_w C L K z r A) H → va_D Ad (cw_w C L K z r A) → va_S Ad s.heap H locs → lv_has ls 5 [] → W p l e (headSpec wsX5_endChoice ({ frames := 1, cells := 0, slots := 0, locals := 22 } : Room)).room s m (List.toArray [.ref y0, .int (hz_i y1), .ref y2, .int (hz_i y3), .int (hz_i y4)]) below meth c H locs 0 0 QQ (F0 m 50 ls []) := by
    intro z A hw H locs ls hP hD hS hl
    refine lv_iconst (v := hz_i 1) hx hb dX5_endChoice_50 (by decide +kernel) ?_
    refine lv_goto (tgt := 55) hx hb dX5_endChoice_51 (by decide) ?_
    exact L55 z A 1 hw H locs ls hP hD hS (lv_sub hl [] rfl)
  have L30 : ∀ (z : Nat → Nat → Int) (A : Nat → Nat → Int), wp_c5_endChoice_30 L K z r A y0 y1 y2 y3 y4  Q → ∀ (H : Heap) (locs : List Loc) (ls : Array Slot), va_P D vwCl (cw_w C L K z r A) H → va_D Ad (cw_w C L K z r A) → va_S Ad s.heap H locs → lv_has ls 5 [(0, .ref y0), (1, .int (hz_i y1)), (2, .ref y2), (3, .int (hz_i y3)), (4, .int (hz_i y4))] → W p l e (headSpec wsX5_endChoice ({ frames := 1, cells := 0, slots := 0, locals := 22 } : Room)).room s m (List.toArray [.ref y0, .int (hz_i y1), .ref y2, .int (hz_i y3), .int (hz_i y4)]) below meth c H locs 0 0 QQ (F0 m 30 ls []) := by
    intro z A hw H locs ls hP hD hS hl
    refine lv_aload_n hx hb dX5_endChoice_30 rfl (lv_at hl 2 rfl) ?_
    obtain ⟨hO_1, hw⟩ := hw
    refine cw_get (ci := 7) (v := .ref (r y2 2)) hx hb hts hin7 hown hK hP hO_1.1 hO_1.2 rfl 2 (by decide) (hts (.fieldLink RX5 181 "HiddenMoves$Side" "moves" "[I") (List.mem_cons_of_mem _ (List.mem_append_left _ (List.mem_append_left _ (List.mem_of_getElem? (i := 0) rfl))))) (fun _ h9 => h9) rfl dX5_endChoice_31 ?_
    refine lv_iload_n hx hb dX5_endChoice_34 rfl (lv_at hl 3 rfl) ?_
    obtain ⟨hO_2, hw⟩ := hw
    obtain ⟨h9i, hw⟩ := hw
    refine cw_ild hx hb hK hP hO_2.1 hO_2.2.2 h9i hO_2.2.1 dX5_endChoice_35 ?_
    refine lv_iload hx hb dX5_endChoice_36 (lv_at hl 4 rfl) ?_
    obtain ⟨h9a, hw⟩ := hw
    obtain ⟨h9b, hw⟩ := hw
    refine hz_icmp_eq (tgt := 50) hx hb dX5_endChoice_38 (by decide) h9a h9b (fun c_3 => ?_) (fun c_3 => ?_)
    · have hw := hw.1 c_3
      exact L50 z A hw H locs ls hP hD hS (lv_sub hl [] rfl)
    · have hw := hw.2 c_3
      refine lv_aload_n hx hb dX5_endChoice_41 rfl (lv_at hl 0 rfl) ?_
      refine lv_iconst (v := hz_i 5) hx hb dX5_endChoice_42 (by decide +kernel) ?_
      refine lv_iload_n hx hb dX5_endChoice_43 rfl (lv_at hl 1 rfl) ?_
      obtain ⟨hO_6, hw⟩ := hw
      have hFc := cw_free hD hS hA
      obtain ⟨q9, hq9⟩ := cw_at (C := C) (z := z) (r := r) (A := A) hO_6.1 hO_6.2
      refine va_calli (va_runV (As := [.int (hz_i 5), .int (hz_i y1)]) (rest := []) ⟨hx, hb, hml, hown, hts⟩ (k_c5_refuse l D _ C L K z r A y0 5 y1 _ hw) (cwV 2 hts gX5_endChoice_X5_refuse rfl rfl rfl (by decide +kernel) ⟨Nat.le_of_ble_eq_true rfl, Nat.le_of_ble_eq_true rfl⟩) ⟨hm_blind, va_recv hK hP (ci := 5) (q0 := q9) rfl hq9, hm_pre hP hK hD hE⟩ rfl rfl hl.1 rfl (lv_room (Nat.le_of_ble_eq_true rfl)) dX5_endChoice_44 ⟨Nat.le_of_ble_eq_true rfl, Nat.le_of_ble_eq_true rfl⟩) hS (fun q _ h => hFc q h) hFc (fun rv u t H1 locs ht hvm hw hB hz1 hk1 hS => ?_)
      obtain ⟨rv_4, z_5, _, _⟩ := u
      obtain ⟨hP, hK1, hD1⟩ := hB
      rw [ht] at hP
      obtain ⟨hrv, hw⟩ := hw
      subst hrv
      have hD := hD1.weaken (fun k q _ h => hFc q.1 h)
      have hP : va_P D vwCl (cw_w C L K z_5 r A) H1 := hP
      have hD : va_D Ad (cw_w C L K z_5 r A) := hD
      generalize H1 = H at hP hS ⊢
      refine W.eq (g2 := F0 m 47 ls [.int (hz_i rv_4)]) rfl ?_
      obtain ⟨h9a, hw⟩ := hw
      refine hz_if_eq (tgt := 54) hx hb dX5_endChoice_47 (by decide) h9a (fun c_7 => ?_) (fun c_7 => ?_)
      · have hw := hw.1 c_7
        refine lv_iconst (v := hz_i 0) hx hb dX5_endChoice_54 (by decide +kernel) ?_
        exact L55 z_5 A 0 hw H locs ls hP hD hS (lv_sub hl [] rfl)
      · have hw := hw.2 c_7
        exact L50 z_5 A hw H locs ls hP hD hS (lv_sub hl [] rfl)
  have hP := hP0; have hD := hD0; have hS := hS0; have hl := hl0; have hw := hw0
  obtain ⟨H, hH⟩ : ∃ H : Heap, H = s.heap := ⟨_, rfl⟩
  obtain ⟨locs, hlocs⟩ : ∃ L : List Loc, L = [] := ⟨_, rfl⟩
  rw [← hH] at hP
  have hS : va_S Ad s.heap H locs := by rw [hH, hlocs]; exact hS
  refine mw_HL hH hlocs ?_
  refine lv_iload hx hb dX5_endChoice_0 (lv_at hl 4 rfl) ?_
  refine lv_iconst (v := hz_i 4) hx hb dX5_endChoice_2 (by decide +kernel) ?_
  obtain ⟨h9a, hw⟩ := hw
  refine hz_icmp_le (tgt := 13) hx hb dX5_endChoice_3 (by decide) h9a ⟨by decide, by decide⟩ (fun c_8 => ?_) (fun c_8 => ?_)
  · have hw := hw.1 c_8
    refine lv_aload_n hx hb dX5_endChoice_13 rfl (lv_at hl 2 rfl) ?_
    obtain ⟨hO_9, hw⟩ := hw
    refine cw_get (ci := 7) (v := .ref (r y2 2)) hx hb hts hin7 hown hK hP hO_9.1 hO_9.2 rfl 2 (by decide) (hts (.fieldLink RX5 181 "HiddenMoves$Side" "moves" "[I") (List.mem_cons_of_mem _ (List.mem_append_left _ (List.mem_append_left _ (List.mem_of_getElem? (i := 0) rfl))))) (fun _ h9 => h9) rfl dX5_endChoice_14 ?_
    refine lv_iload_n hx hb dX5_endChoice_17 rfl (lv_at hl 3 rfl) ?_
    obtain ⟨hO_10, hw⟩ := hw
    obtain ⟨h9i, hw⟩ := hw
    refine cw_ild hx hb hK hP hO_10.1 hO_10.2.2 h9i hO_10.2.1 dX5_endChoice_18 ?_
    obtain ⟨h9a, hw⟩ := hw
    refine hz_if_ne (tgt := 30) hx hb dX5_endChoice_19 (by decide) h9a (fun c_11 => ?_) (fun c_11 => ?_)
    · have hw := hw.1 c_11
      exact L30 z A hw H locs ls hP hD hS (lv_sub hl [0, 1, 2, 3, 4] rfl)
    · have hw := hw.2 c_11
      refine lv_aload_n hx hb dX5_endChoice_22 rfl (lv_at hl 2 rfl) ?_
      refine cw_get (ci := 7) (v := .ref (r y2 2)) hx hb hts hin7 hown hK hP hO_9.1 hO_9.2 rfl 2 (by decide) (hts (.fieldLink RX5 181 "HiddenMoves$Side" "moves" "[I") (List.mem_cons_of_mem _ (List.mem_append_left _ (List.mem_append_left _ (List.mem_of_getElem? (i := 0) rfl))))) (fun _ h9 => h9) rfl dX5_endChoice_23 ?_
      refine lv_iload_n hx hb dX5_endChoice_26 rfl (lv_at hl 3 rfl) ?_
      refine lv_iload hx hb dX5_endChoice_27 (lv_at hl 4 rfl) ?_
      obtain ⟨h9i, hw⟩ := hw
      refine cw_ist (v := y4) hx hb hK hP hD hS hO_10.1 hO_10.2.2 h9i hO_10.2.1 dX5_endChoice_29 (fun H locs hP hD hS => ?_)
      obtain ⟨A_12, hA_12⟩ : ∃ y : Nat → Nat → Int, y = hz_s A (r y2 2) y3 y4 := ⟨_, rfl⟩
      rw [← hA_12] at hP hD
      have hw := hw A_12 hA_12
      exact L30 z A_12 hw H locs ls hP hD hS (lv_sub hl [0, 1, 2, 3, 4] rfl)
  · have hw := hw.2 c_8
    refine lv_aload_n hx hb dX5_endChoice_6 rfl (lv_at hl 0 rfl) ?_
    refine lv_iconst (v := hz_i 2) hx hb dX5_endChoice_7 (by decide +kernel) ?_
    refine lv_iload_n hx hb dX5_endChoice_8 rfl (lv_at hl 1 rfl) ?_
    obtain ⟨hO_15, hw⟩ := hw
    have hFc := cw_free hD hS hA
    obtain ⟨q9, hq9⟩ := cw_at (C := C) (z := z) (r := r) (A := A) hO_15.1 hO_15.2
    refine va_calli (va_runV (As := [.int (hz_i 2), .int (hz_i y1)]) (rest := []) ⟨hx, hb, hml, hown, hts⟩ (k_c5_refuse l D _ C L K z r A y0 2 y1 _ hw) (cwV 2 hts gX5_endChoice_X5_refuse rfl rfl rfl (by decide +kernel) ⟨Nat.le_of_ble_eq_true rfl, Nat.le_of_ble_eq_true rfl⟩) ⟨hm_blind, va_recv hK hP (ci := 5) (q0 := q9) rfl hq9, hm_pre hP hK hD hE⟩ rfl rfl hl.1 rfl (lv_room (Nat.le_of_ble_eq_true rfl)) dX5_endChoice_9 ⟨Nat.le_of_ble_eq_true rfl, Nat.le_of_ble_eq_true rfl⟩) hS (fun q _ h => hFc q h) hFc (fun rv u t H1 locs ht hvm hw hB hz1 hk1 hS => ?_)
    obtain ⟨rv_13, z_14, _, _⟩ := u
    obtain ⟨hP, hK1, hD1⟩ := hB
    rw [ht] at hP
    obtain ⟨hrv, hw⟩ := hw
    subst hrv
    have hD := hD1.weaken (fun k q _ h => hFc q.1 h)
    have hP : va_P D vwCl (cw_w C L K z_14 r A) H1 := hP
    have hD : va_D Ad (cw_w C L K z_14 r A) := hD
    generalize H1 = H at hP hS ⊢
    refine W.eq (g2 := F0 m 12 ls [.int (hz_i rv_13)]) rfl ?_
    obtain ⟨h9z, hw⟩ := hw
    subst hQQ
    subst hAe
    exact W.zret (v := hz_i rv_13) hx hb hr (hz_tZ h9z) (fun t ht hW => ⟨⟨hz_i rv_13, (rv_13, z_14, r, A), rfl, ⟨rfl, hw⟩, by rw [ht]; exact hP, va_K.moved hW.alike hK, hD⟩, hS.F ht⟩) hS.2.2 dX5_endChoice_12

noncomputable def wp_c5_findCommonNumber_10 (L : List Nat) (K : Nat → cw_K) (z : Nat → Nat → Int) (r : Nat → Nat → Nat) (A : Nat → Nat → Int) (y0 : Nat) (x1 : Int) (Q : Int → (Nat → Nat → Int) → Prop) : Prop := ∀ P10 : (Nat → Nat → Int) → Int → Prop, (∀ (z : Nat → Nat → Int) (x1 : Int), cw_O L K 5 y0 ∧ cw_O L K 2 (r y0 3) ∧ cw_A L K 0 (r (r y0 3) 0) ∧ ((0 : Int) ≤ 1 ∧ 1 < (cw_n K (r (r y0 3) 0) : Int)) ∧ hz_rI x1 ∧ hz_rI (A (r (r y0 3) 0) ((1 : Int).toNat)) ∧ ((A (r (r y0 3) 0) ((1 : Int).toNat) ≤ x1 → Q 1 z) ∧ (¬ (A (r (r y0 3) 0) ((1 : Int).toNat) ≤ x1) → cw_A L K 1 (r y0 10) ∧ ((0 : Int) ≤ x1 ∧ x1 < (cw_n K (r y0 10) : Int)) ∧ hz_rL (A (r y0 10) (x1.toNat)) ∧ ((A (r y0 10) (x1.toNat) < 1000000000 → ((0 : Int) ≤ x1 ∧ x1 < (cw_n K (r y0 10) : Int)) ∧ wp_c11_lcm L K z r A (z (r y0 3) 2) (A (r y0 10) (x1.toNat)) (fun rv_7 => ∀ z_8 : Nat → Nat → Int, z_8 = cw_s z (r y0 3) 2 rv_7 → hz_rL (z_8 (r y0 3) 2) ∧ ((z_8 (r y0 3) 2 < 1000000000 → ∀ x1_10 : Int, x1_10 = x1 + 1 → P10 z_8 x1_10) ∧ (¬ (z_8 (r y0 3) 2 < 1000000000) → Q 0 z_8)))) ∧ (¬ (A (r y0 10) (x1.toNat) < 1000000000) → Q 0 z)))) → P10 z x1) → P10 z x1
noncomputable def wp_c5_findCommonNumber (L : List Nat) (K : Nat → cw_K) (z : Nat → Nat → Int) (r : Nat → Nat → Nat) (A : Nat → Nat → Int) (y0 : Nat) (Q : Int → (Nat → Nat → Int) → Prop) : Prop := cw_O L K 5 y0 ∧ cw_O L K 2 (r y0 3) ∧ ∀ z_13 : Nat → Nat → Int, z_13 = cw_s z (r y0 3) 2 1 → wp_c5_findCommonNumber_10 L K z_13 r A y0 0  Q
set_option maxHeartbeats 4000000 in
set_option maxRecDepth 100000 in
theorem k_c5_findCommonNumber (l : Launch) (D : va_G) (sz : Nat) (C : Nat → ClassId) (L : List Nat) (K : Nat → cw_K) (z : Nat → Nat → Int) (r : Nat → Nat → Nat) (A : Nat → Nat → Int) (y0 : Nat) (Q : Int → (Nat → Nat → Int) → Prop) (hw : wp_c5_findCommonNumber L K z r A y0 Q) : Met l yX5_findCommonNumber wsX5_findCommonNumber ({ frames := 3, cells := 0, slots := 0, locals := 73 } : Room) (va_Pc [.ref y0] (hm_P D (cw_w C L K z r A) (cw_t C) sz)) (va_Qi (S := Int × (Nat → Nat → Int) × (Nat → Nat → Nat) × (Nat → Nat → Int)) (fun r u => r = hz_i u.1 ∧ Q u.1 u.2.1) (fun u t => hm_B D (va_A (cw_w C L K z r A) sz) (cw_w C L K u.2.1 r A) (cw_t C) t) (va_A (cw_w C L K z r A) sz)) 0 0 (va_A (cw_w C L K z r A) sz) := by
  refine Met.ofW (cc := cX5_findCommonNumber) (maxL := 2) (ret := (some .boolean)) (by decide) rfl ?_
  intro p e s m args below meth c s₁ B hml hv
  obtain ⟨rfl, hsz, hP, hK, hD0, hE⟩ := hv
  have hx := B.exec
  have hb := B.bytes
  have hr := B.returns
  have hts := atoms_spec (ws := wsX5_findCommonNumber) B.pre
  have hown : s.vm.findClass RX5 = some m.cls := findClass_of_methodNamed B.named
  have hlocks := B.notSynchronized
  have hin2 : ∀ w ∈ u_ws RX2 TX2 4, w ∈ wsX5_findCommonNumber := fun w h => List.mem_cons_of_mem _ (List.mem_append_right _ (h))
  have hin5 : ∀ w ∈ u_ws RX5 TX5 13, w ∈ wsX5_findCommonNumber := fun w h => List.mem_cons_of_mem _ (List.mem_append_left _ (List.mem_append_right _ (h)))
  subst hsz
  have hD := hD0.self (sz := s.heap.size)
  generalize hAe : va_A (cw_w C L K z r A) s.heap.size = Ad at hD ⊢
  have hA : ∀ q : Nat, s.heap.size ≤ q → Ad q := fun q h => by rw [← hAe]; exact Or.inr h
  have hS : va_S Ad s.heap s.heap [] := va_S.rf
  have hl := lv_entry ([.ref y0]) (n := 2) (Nat.le_of_ble_eq_true rfl)
  rw [lg_entry_eq]
  generalize (lg_sl ([.ref y0]) ++ List.replicate (2 - (lg_sl ([.ref y0])).length) Slot.unset).toArray = ls at hl ⊢
  have hl : lv_has ls 2 [(0, .ref y0)] := hl
  refine mw_Q (fun QQ hQQ => ?_)
  have hP0 := hP; have hD0 := hD; have hS0 := hS; have hl0 := hl; have hw0 := hw
  clear hP hD hS hl hw
  have L10 : ∀ (z : Nat → Nat → Int) (x1 : Int), wp_c5_findCommonNumber_10 L K z r A y0 x1  Q → ∀ (H : Heap) (locs : List Loc) (ls : Array Slot), va_P D vwCl (cw_w C L K z r A) H → va_D Ad (cw_w C L K z r A) → va_S Ad s.heap H locs → lv_has ls 2 [(0, .ref y0), (1, .int (hz_i x1))] → W p l e (headSpec wsX5_findCommonNumber ({ frames := 3, cells := 0, slots := 0, locals := 73 } : Room)).room s m (List.toArray [.ref y0]) below meth c H locs 0 0 QQ (F0 m 10 ls []) := by
    intro z x1 hw
    obtain ⟨P10, hP10⟩ : ∃ P : (Nat → Nat → Int) → Int → Prop, ∀ (z : Nat → Nat → Int) (x1 : Int), P z x1 ↔ (∀ (H : Heap) (locs : List Loc) (ls : Array Slot), va_P D vwCl (cw_w C L K z r A) H → va_D Ad (cw_w C L K z r A) → va_S Ad s.heap H locs → lv_has ls 2 [(0, .ref y0), (1, .int (hz_i x1))] → W p l e (headSpec wsX5_findCommonNumber ({ frames := 3, cells := 0, slots := 0, locals := 73 } : Room)).room s m (List.toArray [.ref y0]) below meth c H locs 0 0 QQ (F0 m 10 ls [])) := ⟨fun (z : Nat → Nat → Int) (x1 : Int) => ∀ (H : Heap) (locs : List Loc) (ls : Array Slot), va_P D vwCl (cw_w C L K z r A) H → va_D Ad (cw_w C L K z r A) → va_S Ad s.heap H locs → lv_has ls 2 [(0, .ref y0), (1, .int (hz_i x1))] → W p l e (headSpec wsX5_findCommonNumber ({ frames := 3, cells := 0, slots := 0, locals := 73 } : Room)).room s m (List.toArray [.ref y0]) below meth c H locs 0 0 QQ (F0 m 10 ls []), fun _ _ => Iff.rfl⟩
    refine (hP10 z x1).mp (hw P10 ?_)
    intro z x1 hw
    refine (hP10 z x1).mpr ?_
    intro H locs ls hP hD hS hl
    refine lv_iload_n hx hb dX5_findCommonNumber_10 rfl (lv_at hl 1 rfl) ?_
    refine lv_aload_n hx hb dX5_findCommonNumber_11 rfl (lv_at hl 0 rfl) ?_
    obtain ⟨hO_1, hw⟩ := hw
    refine cw_get (ci := 5) (v := .ref (r y0 3)) hx hb hts hin5 hown hK hP hO_1.1 hO_1.2 rfl 3 (by decide) (hts (.fieldLink RX5 28 "HiddenMoves$Reader" "game" "LHiddenMoves$Game;") (List.mem_cons_of_mem _ (List.mem_append_left _ (List.mem_append_left _ (List.mem_of_getElem? (i := 0) rfl))))) (fun _ h9 => h9) rfl dX5_findCommonNumber_12 ?_
    obtain ⟨hO_2, hw⟩ := hw
    refine cw_get (ci := 2) (v := .ref (r (r y0 3) 0)) hx hb hts hin2 hown hK hP hO_2.1 hO_2.2 rfl 0 (by decide) (hts (.fieldLink RX5 111 "HiddenMoves$Game" "counts" "[I") (List.mem_cons_of_mem _ (List.mem_append_left _ (List.mem_append_left _ (List.mem_of_getElem? (i := 2) rfl))))) (fun _ h9 => h9) rfl dX5_findCommonNumber_15 ?_
    refine lv_iconst (v := hz_i 1) hx hb dX5_findCommonNumber_18 (by decide +kernel) ?_
    obtain ⟨hO_3, hw⟩ := hw
    obtain ⟨h9i, hw⟩ := hw
    refine cw_ild hx hb hK hP hO_3.1 hO_3.2.2 h9i hO_3.2.1 dX5_findCommonNumber_19 ?_
    obtain ⟨h9a, hw⟩ := hw
    obtain ⟨h9b, hw⟩ := hw
    refine hz_icmp_ge (tgt := 83) hx hb dX5_findCommonNumber_20 (by decide) h9a h9b (fun c_4 => ?_) (fun c_4 => ?_)
    · have hw := hw.1 c_4
      refine lv_iconst (v := hz_i 1) hx hb dX5_findCommonNumber_83 (by decide +kernel) ?_
      subst hQQ
      subst hAe
      exact W.zret (v := hz_i 1) hx hb hr (hz_tZ (by decide)) (fun t ht hW => ⟨⟨hz_i 1, (1, z, r, A), rfl, ⟨rfl, hw⟩, by rw [ht]; exact hP, va_K.moved hW.alike hK, hD⟩, hS.F ht⟩) hS.2.2 dX5_findCommonNumber_84
    · have hw := hw.2 c_4
      refine lv_aload_n hx hb dX5_findCommonNumber_23 rfl (lv_at hl 0 rfl) ?_
      refine cw_get (ci := 5) (v := .ref (r y0 10)) hx hb hts hin5 hown hK hP hO_1.1 hO_1.2 rfl 10 (by decide) (hts (.fieldLink RX5 54 "HiddenMoves$Reader" "endBottoms" "[J") (List.mem_cons_of_mem _ (List.mem_append_left _ (List.mem_append_left _ (List.mem_of_getElem? (i := 3) rfl))))) (fun _ h9 => h9) rfl dX5_findCommonNumber_24 ?_
      refine lv_iload_n hx hb dX5_findCommonNumber_27 rfl (lv_at hl 1 rfl) ?_
      obtain ⟨hO_5, hw⟩ := hw
      obtain ⟨h9i, hw⟩ := hw
      refine cw_lld hx hb hK hP hO_5.1 hO_5.2.2 h9i hO_5.2.1 dX5_findCommonNumber_28 ?_
      refine lv_ldc2 hx hb hown (hts (.constantLong RX5 124 (1000000000)) (List.mem_cons_of_mem _ (List.mem_append_left _ (List.mem_append_left _ (List.mem_of_getElem? (i := 4) rfl))))) dX5_findCommonNumber_29 ?_
      refine hz_asl (b := 1000000000) (by decide +kernel) ?_
      obtain ⟨h9a, hw⟩ := hw
      refine hz_lcmp_lt (tgt := 38) hx hb dX5_findCommonNumber_32 dX5_findCommonNumber_33 (by decide) h9a ⟨by decide, by decide⟩ (fun c_6 => ?_) (fun c_6 => ?_)
      · have hw := hw.1 c_6
        refine lv_aload_n hx hb dX5_findCommonNumber_38 rfl (lv_at hl 0 rfl) ?_
        refine cw_get (ci := 5) (v := .ref (r y0 3)) hx hb hts hin5 hown hK hP hO_1.1 hO_1.2 rfl 3 (by decide) (hts (.fieldLink RX5 28 "HiddenMoves$Reader" "game" "LHiddenMoves$Game;") (List.mem_cons_of_mem _ (List.mem_append_left _ (List.mem_append_left _ (List.mem_of_getElem? (i := 0) rfl))))) (fun _ h9 => h9) rfl dX5_findCommonNumber_39 ?_
        refine lv_aload_n hx hb dX5_findCommonNumber_42 rfl (lv_at hl 0 rfl) ?_
        refine cw_get (ci := 5) (v := .ref (r y0 3)) hx hb hts hin5 hown hK hP hO_1.1 hO_1.2 rfl 3 (by decide) (hts (.fieldLink RX5 28 "HiddenMoves$Reader" "game" "LHiddenMoves$Game;") (List.mem_cons_of_mem _ (List.mem_append_left _ (List.mem_append_left _ (List.mem_of_getElem? (i := 0) rfl))))) (fun _ h9 => h9) rfl dX5_findCommonNumber_43 ?_
        refine cw_get (ci := 2) (v := .long (hz_l (z (r y0 3) 2))) hx hb hts hin2 hown hK hP hO_2.1 hO_2.2 rfl 2 (by decide) (hts (.fieldLink RX5 200 "HiddenMoves$Game" "common" "J") (List.mem_cons_of_mem _ (List.mem_append_left _ (List.mem_append_left _ (List.mem_of_getElem? (i := 1) rfl))))) (fun _ h9 => h9) rfl dX5_findCommonNumber_46 ?_
        refine lv_aload_n hx hb dX5_findCommonNumber_49 rfl (lv_at hl 0 rfl) ?_
        refine cw_get (ci := 5) (v := .ref (r y0 10)) hx hb hts hin5 hown hK hP hO_1.1 hO_1.2 rfl 10 (by decide) (hts (.fieldLink RX5 54 "HiddenMoves$Reader" "endBottoms" "[J") (List.mem_cons_of_mem _ (List.mem_append_left _ (List.mem_append_left _ (List.mem_of_getElem? (i := 3) rfl))))) (fun _ h9 => h9) rfl dX5_findCommonNumber_50 ?_
        refine lv_iload_n hx hb dX5_findCommonNumber_53 rfl (lv_at hl 1 rfl) ?_
        obtain ⟨h9i, hw⟩ := hw
        refine cw_lld hx hb hK hP hO_5.1 hO_5.2.2 h9i hO_5.2.1 dX5_findCommonNumber_54 ?_
        have hFc := cw_free hD hS hA
        refine va_calll (va_runSN (As := [.long (hz_l (z (r y0 3) 2)), .long (hz_l (A (r y0 10) (x1.toNat)))]) (rest := [.ref (r y0 3)]) ⟨hx, hb, hml, hown, hts⟩ (k_c11_lcm l D _ C L K z r A (z (r y0 3) 2) (A (r y0 10) (x1.toNat)) _ hw) ⟨va_cnB 2 hts gX5_findCommonNumber_X11_lcm_n146 rfl rfl rfl (hE.nest_RX5_146) (hts (.initialized RX11) (List.mem_cons_of_mem _ (List.mem_append_left _ (List.mem_append_left _ (List.mem_of_getElem? (i := 6) rfl))))) (by decide +kernel) ⟨Nat.le_of_ble_eq_true rfl, Nat.le_of_ble_eq_true rfl⟩, hts (.static yX11_lcm) (List.mem_cons_of_mem _ (List.mem_append_left _ (List.mem_append_left _ (List.mem_of_getElem? (i := 5) rfl)))), trivial⟩ ⟨hm_blind, hm_pre hP hK hD hE⟩ rfl rfl hl.1 rfl (lv_room (Nat.le_of_ble_eq_true rfl)) dX5_findCommonNumber_55 ⟨Nat.le_of_ble_eq_true rfl, Nat.le_of_ble_eq_true rfl⟩) hS (fun q _ h => hFc q h) hFc (fun rv u t H1 locs ht hvm hw hB hz1 hk1 hS => ?_)
        obtain ⟨rv_7, _, _, _⟩ := u
        obtain ⟨hP, hK1, hD1⟩ := hB
        rw [ht] at hP
        obtain ⟨hrv, hw⟩ := hw
        subst hrv
        have hD := hD1.weaken (fun k q _ h => hFc q.1 h)
        have hP : va_P D vwCl (cw_w C L K z r A) H1 := hP
        have hD : va_D Ad (cw_w C L K z r A) := hD
        generalize H1 = H at hP hS ⊢
        refine W.eq (g2 := F0 m 58 ls [.long (hz_l rv_7), .ref (r y0 3)]) rfl ?_
        refine cw_putz (ci := 2) (ty := .long) (v := .long (hz_l rv_7)) (x := rv_7) hx hb hts hin2 tyX2 tyX2_ok nmX2 hown hK hP hD hS hO_2.1 hO_2.2 rfl 2 (by decide) (hts (.fieldLink RX5 200 "HiddenMoves$Game" "common" "J") (List.mem_cons_of_mem _ (List.mem_append_left _ (List.mem_append_left _ (List.mem_of_getElem? (i := 1) rfl))))) (fun _ h9 => h9) rfl (by decide +kernel) rfl rfl (Nat.le_of_ble_eq_true rfl) (cw_z2_2 _ _ _) dX5_findCommonNumber_58 (fun H locs hP hD hS => ?_)
        obtain ⟨z_8, hz_8⟩ : ∃ y : Nat → Nat → Int, y = cw_s z (r y0 3) 2 rv_7 := ⟨_, rfl⟩
        rw [← hz_8] at hP hD
        have hw := hw z_8 hz_8
        refine lv_aload_n hx hb dX5_findCommonNumber_61 rfl (lv_at hl 0 rfl) ?_
        refine cw_get (ci := 5) (v := .ref (r y0 3)) hx hb hts hin5 hown hK hP hO_1.1 hO_1.2 rfl 3 (by decide) (hts (.fieldLink RX5 28 "HiddenMoves$Reader" "game" "LHiddenMoves$Game;") (List.mem_cons_of_mem _ (List.mem_append_left _ (List.mem_append_left _ (List.mem_of_getElem? (i := 0) rfl))))) (fun _ h9 => h9) rfl dX5_findCommonNumber_62 ?_
        refine cw_get (ci := 2) (v := .long (hz_l (z_8 (r y0 3) 2))) hx hb hts hin2 hown hK hP hO_2.1 hO_2.2 rfl 2 (by decide) (hts (.fieldLink RX5 200 "HiddenMoves$Game" "common" "J") (List.mem_cons_of_mem _ (List.mem_append_left _ (List.mem_append_left _ (List.mem_of_getElem? (i := 1) rfl))))) (fun _ h9 => h9) rfl dX5_findCommonNumber_65 ?_
        refine lv_ldc2 hx hb hown (hts (.constantLong RX5 124 (1000000000)) (List.mem_cons_of_mem _ (List.mem_append_left _ (List.mem_append_left _ (List.mem_of_getElem? (i := 4) rfl))))) dX5_findCommonNumber_68 ?_
        refine hz_asl (b := 1000000000) (by decide +kernel) ?_
        obtain ⟨h9a, hw⟩ := hw
        refine hz_lcmp_lt (tgt := 77) hx hb dX5_findCommonNumber_71 dX5_findCommonNumber_72 (by decide) h9a ⟨by decide, by decide⟩ (fun c_9 => ?_) (fun c_9 => ?_)
        · have hw := hw.1 c_9
          obtain ⟨x1_10, hx1_10⟩ : ∃ y : Int, y = x1 + 1 := ⟨_, rfl⟩
          have hw := hw x1_10 hx1_10
          refine lv_iinc (v := hz_i x1_10) (lv' := [(1, .int (hz_i x1_10)), (0, .ref y0)]) hx hb dX5_findCommonNumber_77 hl (k := 1) rfl (by rw [hx1_10]; exact hz_i_add _ _) (by decide) rfl (fun ls hl => ?_)
          refine lv_goto (tgt := 10) hx hb dX5_findCommonNumber_80 (by decide) ?_
          exact (hP10 z_8 x1_10).mp hw H locs ls hP hD hS (lv_sub hl [1, 0] rfl)
        · have hw := hw.2 c_9
          refine lv_iconst (v := hz_i 0) hx hb dX5_findCommonNumber_75 (by decide +kernel) ?_
          subst hQQ
          subst hAe
          exact W.zret (v := hz_i 0) hx hb hr (hz_tZ (by decide)) (fun t ht hW => ⟨⟨hz_i 0, (0, z_8, r, A), rfl, ⟨rfl, hw⟩, by rw [ht]; exact hP, va_K.moved hW.alike hK, hD⟩, hS.F ht⟩) hS.2.2 dX5_findCommonNumber_76
      · have hw := hw.2 c_6
        refine lv_iconst (v := hz_i 0) hx hb dX5_findCommonNumber_36 (by decide +kernel) ?_
        subst hQQ
        subst hAe
        exact W.zret (v := hz_i 0) hx hb hr (hz_tZ (by decide)) (fun t ht hW => ⟨⟨hz_i 0, (0, z, r, A), rfl, ⟨rfl, hw⟩, by rw [ht]; exact hP, va_K.moved hW.alike hK, hD⟩, hS.F ht⟩) hS.2.2 dX5_findCommonNumber_37
  have hP := hP0; have hD := hD0; have hS := hS0; have hl := hl0; have hw := hw0
  obtain ⟨H, hH⟩ : ∃ H : Heap, H = s.heap := ⟨_, rfl⟩
  obtain ⟨locs, hlocs⟩ : ∃ L : List Loc, L = [] := ⟨_, rfl⟩
  rw [← hH] at hP
  have hS : va_S Ad s.heap H locs := by rw [hH, hlocs]; exact hS
  refine mw_HL hH hlocs ?_
  refine lv_aload_n hx hb dX5_findCommonNumber_0 rfl (lv_at hl 0 rfl) ?_
  obtain ⟨hO_11, hw⟩ := hw
  refine cw_get (ci := 5) (v := .ref (r y0 3)) hx hb hts hin5 hown hK hP hO_11.1 hO_11.2 rfl 3 (by decide) (hts (.fieldLink RX5 28 "HiddenMoves$Reader" "game" "LHiddenMoves$Game;") (List.mem_cons_of_mem _ (List.mem_append_left _ (List.mem_append_left _ (List.mem_of_getElem? (i := 0) rfl))))) (fun _ h9 => h9) rfl dX5_findCommonNumber_1 ?_
  refine lv_lconst (v := hz_l 1) hx hb dX5_findCommonNumber_4 (by decide +kernel) ?_
  obtain ⟨hO_12, hw⟩ := hw
  refine cw_putz (ci := 2) (ty := .long) (v := .long (hz_l 1)) (x := 1) hx hb hts hin2 tyX2 tyX2_ok nmX2 hown hK hP hD hS hO_12.1 hO_12.2 rfl 2 (by decide) (hts (.fieldLink RX5 200 "HiddenMoves$Game" "common" "J") (List.mem_cons_of_mem _ (List.mem_append_left _ (List.mem_append_left _ (List.mem_of_getElem? (i := 1) rfl))))) (fun _ h9 => h9) rfl (by decide +kernel) rfl rfl (Nat.le_of_ble_eq_true rfl) (cw_z2_2 _ _ _) dX5_findCommonNumber_5 (fun H locs hP hD hS => ?_)
  obtain ⟨z_13, hz_13⟩ : ∃ y : Nat → Nat → Int, y = cw_s z (r y0 3) 2 1 := ⟨_, rfl⟩
  rw [← hz_13] at hP hD
  have hw := hw z_13 hz_13
  refine lv_iconst (v := hz_i 0) hx hb dX5_findCommonNumber_8 (by decide +kernel) ?_
  refine lv_istore_n (lv' := [(1, .int (hz_i 0)), (0, .ref y0)]) hx hb dX5_findCommonNumber_9 rfl hl (by decide) rfl (fun ls hl => ?_)
  exact L10 z_13 0 hw H locs ls hP hD hS (lv_sub hl [1, 0] rfl)

noncomputable def wp_c7_lineOf_23 (L : List Nat) (K : Nat → cw_K) (z : Nat → Nat → Int) (r : Nat → Nat → Nat) (A : Nat → Nat → Int) (t0 : Int) (Q : Int → Prop) : Prop := Q t0
noncomputable def wp_c7_lineOf (L : List Nat) (K : Nat → cw_K) (z : Nat → Nat → Int) (r : Nat → Nat → Nat) (A : Nat → Nat → Int) (y0 : Nat) (y1 : Int) (Q : Int → Prop) : Prop := hz_rI y1 ∧ ((¬ y1 = (-1) → cw_O L K 7 y0 ∧ wp_c7_setOf L K z r A y1 (fun rv_3 => cw_A L K 0 (r y0 6) ∧ ((0 : Int) ≤ rv_3 ∧ rv_3 < (cw_n K (r y0 6) : Int)) ∧ wp_c7_moveOf L K z r A y1 (fun rv_5 => wp_c7_lineOf_23 L K z r A ((A (r y0 6) (rv_3.toNat)) + rv_5)  Q))) ∧ (y1 = (-1) → wp_c7_lineOf_23 L K z r A 0  Q))
set_option maxHeartbeats 4000000 in
set_option maxRecDepth 100000 in
theorem k_c7_lineOf (l : Launch) (D : va_G) (sz : Nat) (C : Nat → ClassId) (L : List Nat) (K : Nat → cw_K) (z : Nat → Nat → Int) (r : Nat → Nat → Nat) (A : Nat → Nat → Int) (y0 : Nat) (y1 : Int) (Q : Int → Prop) (hw : wp_c7_lineOf L K z r A y0 y1 Q) : Met l yX7_lineOf wsX7_lineOf ({ frames := 1, cells := 0, slots := 0, locals := 20 } : Room) (va_Pc [.ref y0, .int (hz_i y1)] (hm_P D (cw_w C L K z r A) (cw_t C) sz)) (va_Qi (S := Int × (Nat → Nat → Int) × (Nat → Nat → Nat) × (Nat → Nat → Int)) (fun r u => r = hz_i u.1 ∧ Q u.1) (fun u t => hm_B D (va_A (cw_w C L K z r A) sz) (cw_w C L K z r A) (cw_t C) t) (va_A (cw_w C L K z r A) sz)) 0 0 (va_A (cw_w C L K z r A) sz) := by
  refine Met.ofW (cc := cX7_lineOf) (maxL := 2) (ret := (some .int)) (by decide) rfl ?_
  intro p e s m args below meth c s₁ B hml hv
  obtain ⟨rfl, hsz, hP, hK, hD0, hE⟩ := hv
  have hx := B.exec
  have hb := B.bytes
  have hr := B.returns
  have hts := atoms_spec (ws := wsX7_lineOf) B.pre
  have hown : s.vm.findClass RX7 = some m.cls := findClass_of_methodNamed B.named
  have hlocks := B.notSynchronized
  have hin7 : ∀ w ∈ u_ws RX7 TX7 8, w ∈ wsX7_lineOf := fun w h => List.mem_cons_of_mem _ (List.mem_append_right _ (h))
  subst hsz
  have hD := hD0.self (sz := s.heap.size)
  generalize hAe : va_A (cw_w C L K z r A) s.heap.size = Ad at hD ⊢
  have hA : ∀ q : Nat, s.heap.size ≤ q → Ad q := fun q h => by rw [← hAe]; exact Or.inr h
  have hS : va_S Ad s.heap s.heap [] := va_S.rf
  have hl := lv_entry ([.ref y0, .int (hz_i y1)]) (n := 2) (Nat.le_of_ble_eq_true rfl)
  rw [lg_entry_eq]
  generalize (lg_sl ([.ref y0, .int (hz_i y1)]) ++ List.replicate (2 - (lg_sl ([.ref y0, .int (hz_i y1)])).length) Slot.unset).toArray = ls at hl ⊢
  have hl : lv_has ls 2 [(0, .ref y0), (1, .int (hz_i y1))] := hl
  refine mw_Q (fun QQ hQQ => ?_)
  have hP0 := hP; have hD0 := hD; have hS0 := hS; have hl0 := hl; have hw0 := hw
  clear hP hD hS hl hw
  have L23 : ∀ (t0 : Int), wp_c7_lineOf_23 L K z r A t0  Q → ∀ (H : Heap) (locs : List Loc) (ls : Array Slot), va_P D vwCl (cw_w C L K z r A) H → va_D Ad (cw_w C L K z r A) → va_S Ad s.heap H locs → lv_has ls 2 [] → W p l e (headSpec wsX7_lineOf ({ frames := 1, cells := 0, slots := 0, locals := 20 } : Room)).room s m (List.toArray [.ref y0, .int (hz_i y1)]) below meth c H locs 0 0 QQ (F0 m 23 ls [.int (hz_i t0)]) := by
    intro t0 hw H locs ls hP hD hS hl
    subst hQQ
    subst hAe
    exact W.iret (v := hz_i t0) hx hb hr (fun t ht hW => ⟨⟨hz_i t0, (t0, z, r, A), rfl, ⟨rfl, hw⟩, by rw [ht]; exact hP, va_K.moved hW.alike hK, hD⟩, hS.F ht⟩) hS.2.2 dX7_lineOf_23
  have hP := hP0; have hD := hD0; have hS := hS0; have hl := hl0; have hw := hw0
  obtain ⟨H, hH⟩ : ∃ H : Heap, H = s.heap := ⟨_, rfl⟩
  obtain ⟨locs, hlocs⟩ : ∃ L : List Loc, L = [] := ⟨_, rfl⟩
  rw [← hH] at hP
  have hS : va_S Ad s.heap H locs := by rw [hH, hlocs]; exact hS
  refine mw_HL hH hlocs ?_
  refine lv_iload_n hx hb dX7_lineOf_0 rfl (lv_at hl 1 rfl) ?_
  refine lv_iconst (v := hz_i (-1)) hx hb dX7_lineOf_1 (by decide +kernel) ?_
  obtain ⟨h9a, hw⟩ := hw
  refine hz_icmp_ne (tgt := 9) hx hb dX7_lineOf_2 (by decide) h9a ⟨by decide, by decide⟩ (fun c_1 => ?_) (fun c_1 => ?_)
  · have hw := hw.1 c_1
    refine lv_aload_n hx hb dX7_lineOf_9 rfl (lv_at hl 0 rfl) ?_
    obtain ⟨hO_2, hw⟩ := hw
    refine cw_get (ci := 7) (v := .ref (r y0 6)) hx hb hts hin7 hown hK hP hO_2.1 hO_2.2 rfl 6 (by decide) (hts (.fieldLink RX7 31 "HiddenMoves$Side" "firstLines" "[I") (List.mem_cons_of_mem _ (List.mem_append_left _ (List.mem_of_getElem? (i := 0) rfl)))) (fun _ h9 => h9) rfl dX7_lineOf_10 ?_
    refine lv_iload_n hx hb dX7_lineOf_13 rfl (lv_at hl 1 rfl) ?_
    have hFc := cw_free hD hS hA
    refine va_calli (va_runS (As := [.int (hz_i y1)]) (rest := [.ref (r y0 6)]) ⟨hx, hb, hml, hown, hts⟩ (k_c7_setOf l D _ C L K z r A y1 _ hw) (va_cwS 1 hts gX7_lineOf_X7_setOf rfl rfl rfl (by decide +kernel) ⟨Nat.le_of_ble_eq_true rfl, Nat.le_of_ble_eq_true rfl⟩) ⟨hm_blind, hm_pre hP hK hD hE⟩ rfl rfl hl.1 rfl (lv_room (Nat.le_of_ble_eq_true rfl)) dX7_lineOf_14 ⟨Nat.le_of_ble_eq_true rfl, Nat.le_of_ble_eq_true rfl⟩) hS (fun q _ h => hFc q h) hFc (fun rv u t H1 locs ht hvm hw hB hz1 hk1 hS => ?_)
    obtain ⟨rv_3, _, _, _⟩ := u
    obtain ⟨hP, hK1, hD1⟩ := hB
    rw [ht] at hP
    obtain ⟨hrv, hw⟩ := hw
    subst hrv
    have hD := hD1.weaken (fun k q _ h => hFc q.1 h)
    have hP : va_P D vwCl (cw_w C L K z r A) H1 := hP
    have hD : va_D Ad (cw_w C L K z r A) := hD
    generalize H1 = H at hP hS ⊢
    refine W.eq (g2 := F0 m 17 ls [.int (hz_i rv_3), .ref (r y0 6)]) rfl ?_
    obtain ⟨hO_4, hw⟩ := hw
    obtain ⟨h9i, hw⟩ := hw
    refine cw_ild hx hb hK hP hO_4.1 hO_4.2.2 h9i hO_4.2.1 dX7_lineOf_17 ?_
    refine lv_iload_n hx hb dX7_lineOf_18 rfl (lv_at hl 1 rfl) ?_
    have hFc := cw_free hD hS hA
    refine va_calli (va_runS (As := [.int (hz_i y1)]) (rest := [.int (hz_i (A (r y0 6) (rv_3.toNat)))]) ⟨hx, hb, hml, hown, hts⟩ (k_c7_moveOf l D _ C L K z r A y1 _ hw) (va_cwS 1 hts gX7_lineOf_X7_moveOf rfl rfl rfl (by decide +kernel) ⟨Nat.le_of_ble_eq_true rfl, Nat.le_of_ble_eq_true rfl⟩) ⟨hm_blind, hm_pre hP hK hD hE⟩ rfl rfl hl.1 rfl (lv_room (Nat.le_of_ble_eq_true rfl)) dX7_lineOf_19 ⟨Nat.le_of_ble_eq_true rfl, Nat.le_of_ble_eq_true rfl⟩) hS (fun q _ h => hFc q h) hFc (fun rv u t H1 locs ht hvm hw hB hz1 hk1 hS => ?_)
    obtain ⟨rv_5, _, _, _⟩ := u
    obtain ⟨hP, hK1, hD1⟩ := hB
    rw [ht] at hP
    obtain ⟨hrv, hw⟩ := hw
    subst hrv
    have hD := hD1.weaken (fun k q _ h => hFc q.1 h)
    have hP : va_P D vwCl (cw_w C L K z r A) H1 := hP
    have hD : va_D Ad (cw_w C L K z r A) := hD
    generalize H1 = H at hP hS ⊢
    refine W.eq (g2 := F0 m 22 ls [.int (hz_i rv_5), .int (hz_i (A (r y0 6) (rv_3.toNat)))]) rfl ?_
    refine hz_iadd hx hb dX7_lineOf_22 ?_
    exact L23 ((A (r y0 6) (rv_3.toNat)) + rv_5) hw H locs ls hP hD hS (lv_sub hl [] rfl)
  · have hw := hw.2 c_1
    refine lv_iconst (v := hz_i 0) hx hb dX7_lineOf_5 (by decide +kernel) ?_
    refine lv_goto (tgt := 23) hx hb dX7_lineOf_6 (by decide) ?_
    exact L23 0 hw H locs ls hP hD hS (lv_sub hl [] rfl)

noncomputable def wp_c7_numberLines_7 (L : List Nat) (K : Nat → cw_K) (z : Nat → Nat → Int) (r : Nat → Nat → Nat) (A : Nat → Nat → Int) (y0 : Nat) (x1 : Int) (Q : (Nat → Nat → Int) → (Nat → Nat → Int) → Prop) : Prop := ∀ P7 : (Nat → Nat → Int) → (Nat → Nat → Int) → Int → Prop, (∀ (z : Nat → Nat → Int) (A : Nat → Nat → Int) (x1 : Int), cw_O L K 7 y0 ∧ hz_rI x1 ∧ hz_rI (z y0 0) ∧ ((z y0 0 ≤ x1 → Q z A) ∧ (¬ (z y0 0 ≤ x1) → cw_A L K 0 (r y0 6) ∧ ((0 : Int) ≤ x1 ∧ x1 < (cw_n K (r y0 6) : Int)) ∧ ∀ A_4 : Nat → Nat → Int, A_4 = hz_s A (r y0 6) x1 (z y0 5) → cw_A L K 0 (r y0 2) ∧ ((0 : Int) ≤ x1 ∧ x1 < (cw_n K (r y0 2) : Int)) ∧ ∀ z_6 : Nat → Nat → Int, z_6 = cw_s z y0 5 ((z y0 5) + (A_4 (r y0 2) (x1.toNat))) → cw_A L K 0 (r y0 4) ∧ ((0 : Int) ≤ x1 ∧ x1 < (cw_n K (r y0 4) : Int)) ∧ wp_c7_lineOf L K z_6 r A_4 y0 (A_4 (r y0 4) (x1.toNat)) (fun rv_8 => cw_A L K 0 (r y0 7) ∧ ((0 : Int) ≤ x1 ∧ x1 < (cw_n K (r y0 7) : Int)) ∧ ∀ A_10 : Nat → Nat → Int, A_10 = hz_s A_4 (r y0 7) x1 rv_8 → ∀ x1_11 : Int, x1_11 = x1 + 1 → P7 z_6 A_10 x1_11))) → P7 z A x1) → P7 z A x1
noncomputable def wp_c7_numberLines (L : List Nat) (K : Nat → cw_K) (z : Nat → Nat → Int) (r : Nat → Nat → Nat) (A : Nat → Nat → Int) (y0 : Nat) (Q : (Nat → Nat → Int) → (Nat → Nat → Int) → Prop) : Prop := cw_O L K 7 y0 ∧ ∀ z_13 : Nat → Nat → Int, z_13 = cw_s z y0 5 1 → wp_c7_numberLines_7 L K z_13 r A y0 0  Q
set_option maxHeartbeats 4000000 in
set_option maxRecDepth 100000 in
theorem k_c7_numberLines (l : Launch) (D : va_G) (sz : Nat) (C : Nat → ClassId) (L : List Nat) (K : Nat → cw_K) (z : Nat → Nat → Int) (r : Nat → Nat → Nat) (A : Nat → Nat → Int) (y0 : Nat) (Q : (Nat → Nat → Int) → (Nat → Nat → Int) → Prop) (hw : wp_c7_numberLines L K z r A y0 Q) : Met l yX7_numberLines wsX7_numberLines ({ frames := 2, cells := 0, slots := 0, locals := 41 } : Room) (va_Pc [.ref y0] (hm_P D (cw_w C L K z r A) (cw_t C) sz)) (va_Qv (S := Int × (Nat → Nat → Int) × (Nat → Nat → Nat) × (Nat → Nat → Int)) (fun u => Q u.2.1 u.2.2.2) (fun u t => hm_B D (va_A (cw_w C L K z r A) sz) (cw_w C L K u.2.1 r u.2.2.2) (cw_t C) t) (va_A (cw_w C L K z r A) sz)) 0 0 (va_A (cw_w C L K z r A) sz) := by
  refine Met.ofW (cc := cX7_numberLines) (maxL := 2) (ret := none) (by decide) rfl ?_
  intro p e s m args below meth c s₁ B hml hv
  obtain ⟨rfl, hsz, hP, hK, hD0, hE⟩ := hv
  have hx := B.exec
  have hb := B.bytes
  have hr := B.returns
  have hts := atoms_spec (ws := wsX7_numberLines) B.pre
  have hown : s.vm.findClass RX7 = some m.cls := findClass_of_methodNamed B.named
  have hlocks := B.notSynchronized
  have hin7 : ∀ w ∈ u_ws RX7 TX7 8, w ∈ wsX7_numberLines := fun w h => List.mem_cons_of_mem _ (List.mem_append_right _ (h))
  subst hsz
  have hD := hD0.self (sz := s.heap.size)
  generalize hAe : va_A (cw_w C L K z r A) s.heap.size = Ad at hD ⊢
  have hA : ∀ q : Nat, s.heap.size ≤ q → Ad q := fun q h => by rw [← hAe]; exact Or.inr h
  have hS : va_S Ad s.heap s.heap [] := va_S.rf
  have hl := lv_entry ([.ref y0]) (n := 2) (Nat.le_of_ble_eq_true rfl)
  rw [lg_entry_eq]
  generalize (lg_sl ([.ref y0]) ++ List.replicate (2 - (lg_sl ([.ref y0])).length) Slot.unset).toArray = ls at hl ⊢
  have hl : lv_has ls 2 [(0, .ref y0)] := hl
  refine mw_Q (fun QQ hQQ => ?_)
  have hP0 := hP; have hD0 := hD; have hS0 := hS; have hl0 := hl; have hw0 := hw
  clear hP hD hS hl hw
  have L7 : ∀ (z : Nat → Nat → Int) (A : Nat → Nat → Int) (x1 : Int), wp_c7_numberLines_7 L K z r A y0 x1  Q → ∀ (H : Heap) (locs : List Loc) (ls : Array Slot), va_P D vwCl (cw_w C L K z r A) H → va_D Ad (cw_w C L K z r A) → va_S Ad s.heap H locs → lv_has ls 2 [(0, .ref y0), (1, .int (hz_i x1))] → W p l e (headSpec wsX7_numberLines ({ frames := 2, cells := 0, slots := 0, locals := 41 } : Room)).room s m (List.toArray [.ref y0]) below meth c H locs 0 0 QQ (F0 m 7 ls []) := by
    intro z A x1 hw
    obtain ⟨P7, hP7⟩ : ∃ P : (Nat → Nat → Int) → (Nat → Nat → Int) → Int → Prop, ∀ (z : Nat → Nat → Int) (A : Nat → Nat → Int) (x1 : Int), P z A x1 ↔ (∀ (H : Heap) (locs : List Loc) (ls : Array Slot), va_P D vwCl (cw_w C L K z r A) H → va_D Ad (cw_w C L K z r A) → va_S Ad s.heap H locs → lv_has ls 2 [(0, .ref y0), (1, .int (hz_i x1))] → W p l e (headSpec wsX7_numberLines ({ frames := 2, cells := 0, slots := 0, locals := 41 } : Room)).room s m (List.toArray [.ref y0]) below meth c H locs 0 0 QQ (F0 m 7 ls [])) := ⟨fun (z : Nat → Nat → Int) (A : Nat → Nat → Int) (x1 : Int) => ∀ (H : Heap) (locs : List Loc) (ls : Array Slot), va_P D vwCl (cw_w C L K z r A) H → va_D Ad (cw_w C L K z r A) → va_S Ad s.heap H locs → lv_has ls 2 [(0, .ref y0), (1, .int (hz_i x1))] → W p l e (headSpec wsX7_numberLines ({ frames := 2, cells := 0, slots := 0, locals := 41 } : Room)).room s m (List.toArray [.ref y0]) below meth c H locs 0 0 QQ (F0 m 7 ls []), fun _ _ _ => Iff.rfl⟩
    refine (hP7 z A x1).mp (hw P7 ?_)
    intro z A x1 hw
    refine (hP7 z A x1).mpr ?_
    intro H locs ls hP hD hS hl
    refine lv_iload_n hx hb dX7_numberLines_7 rfl (lv_at hl 1 rfl) ?_
    refine lv_aload_n hx hb dX7_numberLines_8 rfl (lv_at hl 0 rfl) ?_
    obtain ⟨hO_1, hw⟩ := hw
    refine cw_get (ci := 7) (v := .int (hz_i (z y0 0))) hx hb hts hin7 hown hK hP hO_1.1 hO_1.2 rfl 0 (by decide) (hts (.fieldLink RX7 9 "HiddenMoves$Side" "sets" "I") (List.mem_cons_of_mem _ (List.mem_append_left _ (List.mem_of_getElem? (i := 1) rfl)))) (fun _ h9 => h9) rfl dX7_numberLines_9 ?_
    obtain ⟨h9a, hw⟩ := hw
    obtain ⟨h9b, hw⟩ := hw
    refine hz_icmp_ge (tgt := 62) hx hb dX7_numberLines_12 (by decide) h9a h9b (fun c_2 => ?_) (fun c_2 => ?_)
    · have hw := hw.1 c_2
      subst hQQ
      subst hAe
      exact W.vret hx hb hr (fun t ht hW => ⟨⟨(0, z, r, A), rfl, hw, by rw [ht]; exact hP, va_K.moved hW.alike hK, hD⟩, hS.F ht⟩) hS.2.2 dX7_numberLines_62
    · have hw := hw.2 c_2
      refine lv_aload_n hx hb dX7_numberLines_15 rfl (lv_at hl 0 rfl) ?_
      refine cw_get (ci := 7) (v := .ref (r y0 6)) hx hb hts hin7 hown hK hP hO_1.1 hO_1.2 rfl 6 (by decide) (hts (.fieldLink RX7 31 "HiddenMoves$Side" "firstLines" "[I") (List.mem_cons_of_mem _ (List.mem_append_left _ (List.mem_of_getElem? (i := 2) rfl)))) (fun _ h9 => h9) rfl dX7_numberLines_16 ?_
      refine lv_iload_n hx hb dX7_numberLines_19 rfl (lv_at hl 1 rfl) ?_
      refine lv_aload_n hx hb dX7_numberLines_20 rfl (lv_at hl 0 rfl) ?_
      refine cw_get (ci := 7) (v := .int (hz_i (z y0 5))) hx hb hts hin7 hown hK hP hO_1.1 hO_1.2 rfl 5 (by decide) (hts (.fieldLink RX7 28 "HiddenMoves$Side" "lines" "I") (List.mem_cons_of_mem _ (List.mem_append_left _ (List.mem_of_getElem? (i := 0) rfl)))) (fun _ h9 => h9) rfl dX7_numberLines_21 ?_
      obtain ⟨hO_3, hw⟩ := hw
      obtain ⟨h9i, hw⟩ := hw
      refine cw_ist (v := z y0 5) hx hb hK hP hD hS hO_3.1 hO_3.2.2 h9i hO_3.2.1 dX7_numberLines_24 (fun H locs hP hD hS => ?_)
      obtain ⟨A_4, hA_4⟩ : ∃ y : Nat → Nat → Int, y = hz_s A (r y0 6) x1 (z y0 5) := ⟨_, rfl⟩
      rw [← hA_4] at hP hD
      have hw := hw A_4 hA_4
      refine lv_aload_n hx hb dX7_numberLines_25 rfl (lv_at hl 0 rfl) ?_
      refine lv_dup hx hb dX7_numberLines_26 rfl ?_
      refine cw_get (ci := 7) (v := .int (hz_i (z y0 5))) hx hb hts hin7 hown hK hP hO_1.1 hO_1.2 rfl 5 (by decide) (hts (.fieldLink RX7 28 "HiddenMoves$Side" "lines" "I") (List.mem_cons_of_mem _ (List.mem_append_left _ (List.mem_of_getElem? (i := 0) rfl)))) (fun _ h9 => h9) rfl dX7_numberLines_27 ?_
      refine lv_aload_n hx hb dX7_numberLines_30 rfl (lv_at hl 0 rfl) ?_
      refine cw_get (ci := 7) (v := .ref (r y0 2)) hx hb hts hin7 hown hK hP hO_1.1 hO_1.2 rfl 2 (by decide) (hts (.fieldLink RX7 19 "HiddenMoves$Side" "moves" "[I") (List.mem_cons_of_mem _ (List.mem_append_left _ (List.mem_of_getElem? (i := 3) rfl)))) (fun _ h9 => h9) rfl dX7_numberLines_31 ?_
      refine lv_iload_n hx hb dX7_numberLines_34 rfl (lv_at hl 1 rfl) ?_
      obtain ⟨hO_5, hw⟩ := hw
      obtain ⟨h9i, hw⟩ := hw
      refine cw_ild hx hb hK hP hO_5.1 hO_5.2.2 h9i hO_5.2.1 dX7_numberLines_35 ?_
      refine hz_iadd hx hb dX7_numberLines_36 ?_
      refine cw_putz (ci := 7) (ty := .int) (v := .int (hz_i ((z y0 5) + (A_4 (r y0 2) (x1.toNat))))) (x := (z y0 5) + (A_4 (r y0 2) (x1.toNat))) hx hb hts hin7 tyX7 tyX7_ok nmX7 hown hK hP hD hS hO_1.1 hO_1.2 rfl 5 (by decide) (hts (.fieldLink RX7 28 "HiddenMoves$Side" "lines" "I") (List.mem_cons_of_mem _ (List.mem_append_left _ (List.mem_of_getElem? (i := 0) rfl)))) (fun _ h9 => h9) rfl (by decide +kernel) rfl rfl (Nat.le_of_ble_eq_true rfl) (cw_z7_5 _ _ _) dX7_numberLines_37 (fun H locs hP hD hS => ?_)
      obtain ⟨z_6, hz_6⟩ : ∃ y : Nat → Nat → Int, y = cw_s z y0 5 ((z y0 5) + (A_4 (r y0 2) (x1.toNat))) := ⟨_, rfl⟩
      rw [← hz_6] at hP hD
      have hw := hw z_6 hz_6
      refine lv_aload_n hx hb dX7_numberLines_40 rfl (lv_at hl 0 rfl) ?_
      refine cw_get (ci := 7) (v := .ref (r y0 7)) hx hb hts hin7 hown hK hP hO_1.1 hO_1.2 rfl 7 (by decide) (hts (.fieldLink RX7 34 "HiddenMoves$Side" "parentLines" "[I") (List.mem_cons_of_mem _ (List.mem_append_left _ (List.mem_of_getElem? (i := 4) rfl)))) (fun _ h9 => h9) rfl dX7_numberLines_41 ?_
      refine lv_iload_n hx hb dX7_numberLines_44 rfl (lv_at hl 1 rfl) ?_
      refine lv_aload_n hx hb dX7_numberLines_45 rfl (lv_at hl 0 rfl) ?_
      refine lv_aload_n hx hb dX7_numberLines_46 rfl (lv_at hl 0 rfl) ?_
      refine cw_get (ci := 7) (v := .ref (r y0 4)) hx hb hts hin7 hown hK hP hO_1.1 hO_1.2 rfl 4 (by decide) (hts (.fieldLink RX7 25 "HiddenMoves$Side" "deeds" "[I") (List.mem_cons_of_mem _ (List.mem_append_left _ (List.mem_of_getElem? (i := 5) rfl)))) (fun _ h9 => h9) rfl dX7_numberLines_47 ?_
      refine lv_iload_n hx hb dX7_numberLines_50 rfl (lv_at hl 1 rfl) ?_
      obtain ⟨hO_7, hw⟩ := hw
      obtain ⟨h9i, hw⟩ := hw
      refine cw_ild hx hb hK hP hO_7.1 hO_7.2.2 h9i hO_7.2.1 dX7_numberLines_51 ?_
      have hFc := cw_free hD hS hA
      obtain ⟨q9, hq9⟩ := cw_at (C := C) (z := z_6) (r := r) (A := A_4) hO_1.1 hO_1.2
      refine va_calli (va_runV (As := [.int (hz_i (A_4 (r y0 4) (x1.toNat)))]) (rest := [.int (hz_i x1), .ref (r y0 7)]) ⟨hx, hb, hml, hown, hts⟩ (k_c7_lineOf l D _ C L K z_6 r A_4 y0 (A_4 (r y0 4) (x1.toNat)) _ hw) (cwV 1 hts gX7_numberLines_X7_lineOf rfl rfl rfl (by decide +kernel) ⟨Nat.le_of_ble_eq_true rfl, Nat.le_of_ble_eq_true rfl⟩) ⟨hm_blind, va_recv hK hP (ci := 7) (q0 := q9) rfl hq9, hm_pre hP hK hD hE⟩ rfl rfl hl.1 rfl (lv_room (Nat.le_of_ble_eq_true rfl)) dX7_numberLines_52 ⟨Nat.le_of_ble_eq_true rfl, Nat.le_of_ble_eq_true rfl⟩) hS (fun q _ h => hFc q h) hFc (fun rv u t H1 locs ht hvm hw hB hz1 hk1 hS => ?_)
      obtain ⟨rv_8, _, _, _⟩ := u
      obtain ⟨hP, hK1, hD1⟩ := hB
      rw [ht] at hP
      obtain ⟨hrv, hw⟩ := hw
      subst hrv
      have hD := hD1.weaken (fun k q _ h => hFc q.1 h)
      have hP : va_P D vwCl (cw_w C L K z_6 r A_4) H1 := hP
      have hD : va_D Ad (cw_w C L K z_6 r A_4) := hD
      generalize H1 = H at hP hS ⊢
      refine W.eq (g2 := F0 m 55 ls [.int (hz_i rv_8), .int (hz_i x1), .ref (r y0 7)]) rfl ?_
      obtain ⟨hO_9, hw⟩ := hw
      obtain ⟨h9i, hw⟩ := hw
      refine cw_ist (v := rv_8) hx hb hK hP hD hS hO_9.1 hO_9.2.2 h9i hO_9.2.1 dX7_numberLines_55 (fun H locs hP hD hS => ?_)
      obtain ⟨A_10, hA_10⟩ : ∃ y : Nat → Nat → Int, y = hz_s A_4 (r y0 7) x1 rv_8 := ⟨_, rfl⟩
      rw [← hA_10] at hP hD
      have hw := hw A_10 hA_10
      obtain ⟨x1_11, hx1_11⟩ : ∃ y : Int, y = x1 + 1 := ⟨_, rfl⟩
      have hw := hw x1_11 hx1_11
      refine lv_iinc (v := hz_i x1_11) (lv' := [(1, .int (hz_i x1_11)), (0, .ref y0)]) hx hb dX7_numberLines_56 hl (k := 1) rfl (by rw [hx1_11]; exact hz_i_add _ _) (by decide) rfl (fun ls hl => ?_)
      refine lv_goto (tgt := 7) hx hb dX7_numberLines_59 (by decide) ?_
      exact (hP7 z_6 A_10 x1_11).mp hw H locs ls hP hD hS (lv_sub hl [1, 0] rfl)
  have hP := hP0; have hD := hD0; have hS := hS0; have hl := hl0; have hw := hw0
  obtain ⟨H, hH⟩ : ∃ H : Heap, H = s.heap := ⟨_, rfl⟩
  obtain ⟨locs, hlocs⟩ : ∃ L : List Loc, L = [] := ⟨_, rfl⟩
  rw [← hH] at hP
  have hS : va_S Ad s.heap H locs := by rw [hH, hlocs]; exact hS
  refine mw_HL hH hlocs ?_
  refine lv_aload_n hx hb dX7_numberLines_0 rfl (lv_at hl 0 rfl) ?_
  refine lv_iconst (v := hz_i 1) hx hb dX7_numberLines_1 (by decide +kernel) ?_
  obtain ⟨hO_12, hw⟩ := hw
  refine cw_putz (ci := 7) (ty := .int) (v := .int (hz_i 1)) (x := 1) hx hb hts hin7 tyX7 tyX7_ok nmX7 hown hK hP hD hS hO_12.1 hO_12.2 rfl 5 (by decide) (hts (.fieldLink RX7 28 "HiddenMoves$Side" "lines" "I") (List.mem_cons_of_mem _ (List.mem_append_left _ (List.mem_of_getElem? (i := 0) rfl)))) (fun _ h9 => h9) rfl (by decide +kernel) rfl rfl (Nat.le_of_ble_eq_true rfl) (cw_z7_5 _ _ _) dX7_numberLines_2 (fun H locs hP hD hS => ?_)
  obtain ⟨z_13, hz_13⟩ : ∃ y : Nat → Nat → Int, y = cw_s z y0 5 1 := ⟨_, rfl⟩
  rw [← hz_13] at hP hD
  have hw := hw z_13 hz_13
  refine lv_iconst (v := hz_i 0) hx hb dX7_numberLines_5 (by decide +kernel) ?_
  refine lv_istore_n (lv' := [(1, .int (hz_i 0)), (0, .ref y0)]) hx hb dX7_numberLines_6 rfl hl (by decide) rfl (fun ls hl => ?_)
  exact L7 z_13 A 0 hw H locs ls hP hD hS (lv_sub hl [1, 0] rfl)

noncomputable def wp_c5_fillWeights_2 (L : List Nat) (K : Nat → cw_K) (z : Nat → Nat → Int) (r : Nat → Nat → Nat) (A : Nat → Nat → Int) (y0 : Nat) (x1 : Int) (Q : Int → (Nat → Nat → Int) → Prop) : Prop := ∀ P2 : (Nat → Nat → Int) → Int → Prop, (∀ (A : Nat → Nat → Int) (x1 : Int), cw_O L K 5 y0 ∧ cw_O L K 2 (r y0 3) ∧ cw_A L K 0 (r (r y0 3) 0) ∧ ((0 : Int) ≤ 1 ∧ 1 < (cw_n K (r (r y0 3) 0) : Int)) ∧ hz_rI x1 ∧ hz_rI (A (r (r y0 3) 0) ((1 : Int).toNat)) ∧ ((A (r (r y0 3) 0) ((1 : Int).toNat) ≤ x1 → Q 1 A) ∧ (¬ (A (r (r y0 3) 0) ((1 : Int).toNat) ≤ x1) → cw_A L K 1 (r y0 10) ∧ ((0 : Int) ≤ x1 ∧ x1 < (cw_n K (r y0 10) : Int)) ∧ wp_c11_quotient L K z r A (z (r y0 3) 2) (A (r y0 10) (x1.toNat)) (fun rv_6 => cw_A L K 1 (r y0 9) ∧ ((0 : Int) ≤ x1 ∧ x1 < (cw_n K (r y0 9) : Int)) ∧ ∀ x2_8 : Int, x2_8 = rv_6 * (A (r y0 9) (x1.toNat)) → hz_rL x2_8 ∧ -9223372036854775808 < x2_8 ∧ ∀ x9_9 : Int, x9_9 = (x2_8.natAbs : Int) → hz_rL x9_9 ∧ ((x9_9 < 1000000000 → cw_G L K 7 (r (r y0 3) 1) ∧ ((0 : Int) ≤ 0 ∧ 0 < (cw_n K (r (r y0 3) 1) : Int)) ∧ cw_A L K 0 (r y0 11) ∧ ((0 : Int) ≤ x1 ∧ x1 < (cw_n K (r y0 11) : Int)) ∧ cw_O L K 7 (cw_g K (r (r y0 3) 1) ((0 : Int).toNat)) ∧ wp_c7_lineOf L K z r A (cw_g K (r (r y0 3) 1) ((0 : Int).toNat)) (A (r y0 11) (x1.toNat)) (fun rv_13 => ((0 : Int) ≤ 1 ∧ 1 < (cw_n K (r (r y0 3) 1) : Int)) ∧ cw_A L K 0 (r y0 12) ∧ ((0 : Int) ≤ x1 ∧ x1 < (cw_n K (r y0 12) : Int)) ∧ cw_O L K 7 (cw_g K (r (r y0 3) 1) ((1 : Int).toNat)) ∧ wp_c7_lineOf L K z r A (cw_g K (r (r y0 3) 1) ((1 : Int).toNat)) (A (r y0 12) (x1.toNat)) (fun rv_16 => cw_G L K 10 (r (r y0 3) 3) ∧ ((0 : Int) ≤ rv_13 ∧ rv_13 < (cw_n K (r (r y0 3) 3) : Int)) ∧ cw_A L K 1 (cw_g K (r (r y0 3) 3) (rv_13.toNat)) ∧ ((0 : Int) ≤ rv_16 ∧ rv_16 < (cw_n K (cw_g K (r (r y0 3) 3) (rv_13.toNat)) : Int)) ∧ ((0 : Int) ≤ rv_16 ∧ rv_16 < (cw_n K (cw_g K (r (r y0 3) 3) (rv_13.toNat)) : Int)) ∧ ∀ A_20 : Nat → Nat → Int, A_20 = hz_s A (cw_g K (r (r y0 3) 3) (rv_13.toNat)) rv_16 ((A (cw_g K (r (r y0 3) 3) (rv_13.toNat)) (rv_16.toNat)) + x2_8) → ∀ x1_21 : Int, x1_21 = x1 + 1 → P2 A_20 x1_21))) ∧ (¬ (x9_9 < 1000000000) → Q 0 A))))) → P2 A x1) → P2 A x1
noncomputable def wp_c5_fillWeights (L : List Nat) (K : Nat → cw_K) (z : Nat → Nat → Int) (r : Nat → Nat → Nat) (A : Nat → Nat → Int) (y0 : Nat) (Q : Int → (Nat → Nat → Int) → Prop) : Prop := wp_c5_fillWeights_2 L K z r A y0 0  Q
set_option maxHeartbeats 4000000 in
set_option maxRecDepth 100000 in
theorem k_c5_fillWeights (l : Launch) (D : va_G) (sz : Nat) (C : Nat → ClassId) (L : List Nat) (K : Nat → cw_K) (z : Nat → Nat → Int) (r : Nat → Nat → Nat) (A : Nat → Nat → Int) (y0 : Nat) (Q : Int → (Nat → Nat → Int) → Prop) (hw : wp_c5_fillWeights L K z r A y0 Q) : Met l yX5_fillWeights wsX5_fillWeights ({ frames := 2, cells := 0, slots := 0, locals := 41 } : Room) (va_Pc [.ref y0] (hm_P D (cw_w C L K z r A) (cw_t C) sz)) (va_Qi (S := Int × (Nat → Nat → Int) × (Nat → Nat → Nat) × (Nat → Nat → Int)) (fun r u => r = hz_i u.1 ∧ Q u.1 u.2.2.2) (fun u t => hm_B D (va_A (cw_w C L K z r A) sz) (cw_w C L K z r u.2.2.2) (cw_t C) t) (va_A (cw_w C L K z r A) sz)) 0 0 (va_A (cw_w C L K z r A) sz) := by
  refine Met.ofW (cc := cX5_fillWeights) (maxL := 6) (ret := (some .boolean)) (by decide) rfl ?_
  intro p e s m args below meth c s₁ B hml hv
  obtain ⟨rfl, hsz, hP, hK, hD0, hE⟩ := hv
  have hx := B.exec
  have hb := B.bytes
  have hr := B.returns
  have hts := atoms_spec (ws := wsX5_fillWeights) B.pre
  have hown : s.vm.findClass RX5 = some m.cls := findClass_of_methodNamed B.named
  have hlocks := B.notSynchronized
  have hin2 : ∀ w ∈ u_ws RX2 TX2 4, w ∈ wsX5_fillWeights := fun w h => List.mem_cons_of_mem _ (List.mem_append_left _ (List.mem_append_right _ (h)))
  have hin5 : ∀ w ∈ u_ws RX5 TX5 13, w ∈ wsX5_fillWeights := fun w h => List.mem_cons_of_mem _ (List.mem_append_left _ (List.mem_append_left _ (List.mem_append_right _ (h))))
  subst hsz
  have hD := hD0.self (sz := s.heap.size)
  generalize hAe : va_A (cw_w C L K z r A) s.heap.size = Ad at hD ⊢
  have hA : ∀ q : Nat, s.heap.size ≤ q → Ad q := fun q h => by rw [← hAe]; exact Or.inr h
  have hS : va_S Ad s.heap s.heap [] := va_S.rf
  have hl := lv_entry ([.ref y0]) (n := 6) (Nat.le_of_ble_eq_true rfl)
  rw [lg_entry_eq]
  generalize (lg_sl ([.ref y0]) ++ List.replicate (6 - (lg_sl ([.ref y0])).length) Slot.unset).toArray = ls at hl ⊢
  have hl : lv_has ls 6 [(0, .ref y0)] := hl
  refine mw_Q (fun QQ hQQ => ?_)
  have hP0 := hP; have hD0 := hD; have hS0 := hS; have hl0 := hl; have hw0 := hw
  clear hP hD hS hl hw
  have L2 : ∀ (A : Nat → Nat → Int) (x1 : Int), wp_c5_fillWeights_2 L K z r A y0 x1  Q → ∀ (H : Heap) (locs : List Loc) (ls : Array Slot), va_P D vwCl (cw_w C L K z r A) H → va_D Ad (cw_w C L K z r A) → va_S Ad s.heap H locs → lv_has ls 6 [(0, .ref y0), (1, .int (hz_i x1))] → W p l e (headSpec wsX5_fillWeights ({ frames := 2, cells := 0, slots := 0, locals := 41 } : Room)).room s m (List.toArray [.ref y0]) below meth c H locs 0 0 QQ (F0 m 2 ls []) := by
    intro A x1 hw
    obtain ⟨P2, hP2⟩ : ∃ P : (Nat → Nat → Int) → Int → Prop, ∀ (A : Nat → Nat → Int) (x1 : Int), P A x1 ↔ (∀ (H : Heap) (locs : List Loc) (ls : Array Slot), va_P D vwCl (cw_w C L K z r A) H → va_D Ad (cw_w C L K z r A) → va_S Ad s.heap H locs → lv_has ls 6 [(0, .ref y0), (1, .int (hz_i x1))] → W p l e (headSpec wsX5_fillWeights ({ frames := 2, cells := 0, slots := 0, locals := 41 } : Room)).room s m (List.toArray [.ref y0]) below meth c H locs 0 0 QQ (F0 m 2 ls [])) := ⟨fun (A : Nat → Nat → Int) (x1 : Int) => ∀ (H : Heap) (locs : List Loc) (ls : Array Slot), va_P D vwCl (cw_w C L K z r A) H → va_D Ad (cw_w C L K z r A) → va_S Ad s.heap H locs → lv_has ls 6 [(0, .ref y0), (1, .int (hz_i x1))] → W p l e (headSpec wsX5_fillWeights ({ frames := 2, cells := 0, slots := 0, locals := 41 } : Room)).room s m (List.toArray [.ref y0]) below meth c H locs 0 0 QQ (F0 m 2 ls []), fun _ _ => Iff.rfl⟩
    refine (hP2 A x1).mp (hw P2 ?_)
    intro A x1 hw
    refine (hP2 A x1).mpr ?_
    intro H locs ls hP hD hS hl
    refine lv_iload_n hx hb dX5_fillWeights_2 rfl (lv_at hl 1 rfl) ?_
    refine lv_aload_n hx hb dX5_fillWeights_3 rfl (lv_at hl 0 rfl) ?_
    obtain ⟨hO_1, hw⟩ := hw
    refine cw_get (ci := 5) (v := .ref (r y0 3)) hx hb hts hin5 hown hK hP hO_1.1 hO_1.2 rfl 3 (by decide) (hts (.fieldLink RX5 28 "HiddenMoves$Reader" "game" "LHiddenMoves$Game;") (List.mem_cons_of_mem _ (List.mem_append_left _ (List.mem_append_left _ (List.mem_append_left _ (List.mem_append_left _ (List.mem_of_getElem? (i := 0) rfl))))))) (fun _ h9 => h9) rfl dX5_fillWeights_4 ?_
    obtain ⟨hO_2, hw⟩ := hw
    refine cw_get (ci := 2) (v := .ref (r (r y0 3) 0)) hx hb hts hin2 hown hK hP hO_2.1 hO_2.2 rfl 0 (by decide) (hts (.fieldLink RX5 111 "HiddenMoves$Game" "counts" "[I") (List.mem_cons_of_mem _ (List.mem_append_left _ (List.mem_append_left _ (List.mem_append_left _ (List.mem_append_left _ (List.mem_of_getElem? (i := 1) rfl))))))) (fun _ h9 => h9) rfl dX5_fillWeights_7 ?_
    refine lv_iconst (v := hz_i 1) hx hb dX5_fillWeights_10 (by decide +kernel) ?_
    obtain ⟨hO_3, hw⟩ := hw
    obtain ⟨h9i, hw⟩ := hw
    refine cw_ild hx hb hK hP hO_3.1 hO_3.2.2 h9i hO_3.2.1 dX5_fillWeights_11 ?_
    obtain ⟨h9a, hw⟩ := hw
    obtain ⟨h9b, hw⟩ := hw
    refine hz_icmp_ge (tgt := 115) hx hb dX5_fillWeights_12 (by decide) h9a h9b (fun c_4 => ?_) (fun c_4 => ?_)
    · have hw := hw.1 c_4
      refine lv_iconst (v := hz_i 1) hx hb dX5_fillWeights_115 (by decide +kernel) ?_
      subst hQQ
      subst hAe
      exact W.zret (v := hz_i 1) hx hb hr (hz_tZ (by decide)) (fun t ht hW => ⟨⟨hz_i 1, (1, z, r, A), rfl, ⟨rfl, hw⟩, by rw [ht]; exact hP, va_K.moved hW.alike hK, hD⟩, hS.F ht⟩) hS.2.2 dX5_fillWeights_116
    · have hw := hw.2 c_4
      refine lv_aload_n hx hb dX5_fillWeights_15 rfl (lv_at hl 0 rfl) ?_
      refine cw_get (ci := 5) (v := .ref (r y0 3)) hx hb hts hin5 hown hK hP hO_1.1 hO_1.2 rfl 3 (by decide) (hts (.fieldLink RX5 28 "HiddenMoves$Reader" "game" "LHiddenMoves$Game;") (List.mem_cons_of_mem _ (List.mem_append_left _ (List.mem_append_left _ (List.mem_append_left _ (List.mem_append_left _ (List.mem_of_getElem? (i := 0) rfl))))))) (fun _ h9 => h9) rfl dX5_fillWeights_16 ?_
      refine cw_get (ci := 2) (v := .long (hz_l (z (r y0 3) 2))) hx hb hts hin2 hown hK hP hO_2.1 hO_2.2 rfl 2 (by decide) (hts (.fieldLink RX5 200 "HiddenMoves$Game" "common" "J") (List.mem_cons_of_mem _ (List.mem_append_left _ (List.mem_append_left _ (List.mem_append_left _ (List.mem_append_left _ (List.mem_of_getElem? (i := 2) rfl))))))) (fun _ h9 => h9) rfl dX5_fillWeights_19 ?_
      refine lv_aload_n hx hb dX5_fillWeights_22 rfl (lv_at hl 0 rfl) ?_
      refine cw_get (ci := 5) (v := .ref (r y0 10)) hx hb hts hin5 hown hK hP hO_1.1 hO_1.2 rfl 10 (by decide) (hts (.fieldLink RX5 54 "HiddenMoves$Reader" "endBottoms" "[J") (List.mem_cons_of_mem _ (List.mem_append_left _ (List.mem_append_left _ (List.mem_append_left _ (List.mem_append_left _ (List.mem_of_getElem? (i := 3) rfl))))))) (fun _ h9 => h9) rfl dX5_fillWeights_23 ?_
      refine lv_iload_n hx hb dX5_fillWeights_26 rfl (lv_at hl 1 rfl) ?_
      obtain ⟨hO_5, hw⟩ := hw
      obtain ⟨h9i, hw⟩ := hw
      refine cw_lld hx hb hK hP hO_5.1 hO_5.2.2 h9i hO_5.2.1 dX5_fillWeights_27 ?_
      have hFc := cw_free hD hS hA
      refine va_calll (va_runSN (As := [.long (hz_l (z (r y0 3) 2)), .long (hz_l (A (r y0 10) (x1.toNat)))]) (rest := []) ⟨hx, hb, hml, hown, hts⟩ (k_c11_quotient l D _ C L K z r A (z (r y0 3) 2) (A (r y0 10) (x1.toNat)) _ hw) ⟨va_cnB 2 hts gX5_fillWeights_X11_quotient_n140 rfl rfl rfl (hE.nest_RX5_140) (hts (.initialized RX11) (List.mem_cons_of_mem _ (List.mem_append_left _ (List.mem_append_left _ (List.mem_append_left _ (List.mem_append_left _ (List.mem_of_getElem? (i := 15) rfl))))))) (by decide +kernel) ⟨Nat.le_of_ble_eq_true rfl, Nat.le_of_ble_eq_true rfl⟩, hts (.static yX11_quotient) (List.mem_cons_of_mem _ (List.mem_append_left _ (List.mem_append_left _ (List.mem_append_left _ (List.mem_append_left _ (List.mem_of_getElem? (i := 14) rfl)))))), trivial⟩ ⟨hm_blind, hm_pre hP hK hD hE⟩ rfl rfl hl.1 rfl (lv_room (Nat.le_of_ble_eq_true rfl)) dX5_fillWeights_28 ⟨Nat.le_of_ble_eq_true rfl, Nat.le_of_ble_eq_true rfl⟩) hS (fun q _ h => hFc q h) hFc (fun rv u t H1 locs ht hvm hw hB hz1 hk1 hS => ?_)
      obtain ⟨rv_6, _, _, _⟩ := u
      obtain ⟨hP, hK1, hD1⟩ := hB
      rw [ht] at hP
      obtain ⟨hrv, hw⟩ := hw
      subst hrv
      have hD := hD1.weaken (fun k q _ h => hFc q.1 h)
      have hP : va_P D vwCl (cw_w C L K z r A) H1 := hP
      have hD : va_D Ad (cw_w C L K z r A) := hD
      generalize H1 = H at hP hS ⊢
      refine W.eq (g2 := F0 m 31 ls [.long (hz_l rv_6)]) rfl ?_
      refine lv_aload_n hx hb dX5_fillWeights_31 rfl (lv_at hl 0 rfl) ?_
      refine cw_get (ci := 5) (v := .ref (r y0 9)) hx hb hts hin5 hown hK hP hO_1.1 hO_1.2 rfl 9 (by decide) (hts (.fieldLink RX5 50 "HiddenMoves$Reader" "endTops" "[J") (List.mem_cons_of_mem _ (List.mem_append_left _ (List.mem_append_left _ (List.mem_append_left _ (List.mem_append_left _ (List.mem_of_getElem? (i := 4) rfl))))))) (fun _ h9 => h9) rfl dX5_fillWeights_32 ?_
      refine lv_iload_n hx hb dX5_fillWeights_35 rfl (lv_at hl 1 rfl) ?_
      obtain ⟨hO_7, hw⟩ := hw
      obtain ⟨h9i, hw⟩ := hw
      refine cw_lld hx hb hK hP hO_7.1 hO_7.2.2 h9i hO_7.2.1 dX5_fillWeights_36 ?_
      refine hz_lmul hx hb dX5_fillWeights_37 ?_
      refine hz_topl (fun x2_8 hx2_8 => ?_)
      have hw := hw x2_8 hx2_8
      refine lv_lstore_n (lv' := [(2, .long (hz_l x2_8)), (0, .ref y0), (1, .int (hz_i x1))]) hx hb dX5_fillWeights_38 rfl hl (by decide) rfl (fun ls hl => ?_)
      refine lv_lload_n hx hb dX5_fillWeights_39 rfl (lv_at hl 0 rfl) ?_
      obtain ⟨h9a, hw⟩ := hw
      obtain ⟨h9m, hw⟩ := hw
      refine cw_mabs_long (x := x2_8) (y := x2_8) hx hb (by rw [hml]; exact hl.1.symm) hown (hts (.methodLink RX5 203 Lib.MathLoose.abs_long.x) (List.mem_cons_of_mem _ (List.mem_append_left _ (List.mem_append_left _ (List.mem_append_left _ (List.mem_append_left _ (List.mem_of_getElem? (i := 5) rfl))))))) (hts (.static Lib.MathLoose.abs_long.x) (List.mem_cons_of_mem _ (List.mem_append_left _ (List.mem_append_left _ (List.mem_append_left _ (List.mem_append_left _ (List.mem_of_getElem? (i := 6) rfl))))))) (hts (.initialized "java/lang/Math") (List.mem_cons_of_mem _ (List.mem_append_left _ (List.mem_append_left _ (List.mem_append_left _ (List.mem_append_left _ (List.mem_of_getElem? (i := 7) rfl))))))) (hts (.code Lib.MathLoose.abs_long.x Lib.MathLoose.abs_long.code 2 (some .long)) (List.mem_cons_of_mem _ (List.mem_append_left _ (List.mem_append_left _ (List.mem_append_left _ (List.mem_append_left _ (List.mem_of_getElem? (i := 8) rfl))))))) (Nat.le_of_ble_eq_true rfl) (Nat.le_of_ble_eq_true rfl) (Nat.zero_le _) (Nat.zero_le _) dX5_fillWeights_40 h9a h9m (fun x9_9 hx9_9 => ?_)
      have hw := hw x9_9 hx9_9
      refine lv_ldc2 hx hb hown (hts (.constantLong RX5 124 (1000000000)) (List.mem_cons_of_mem _ (List.mem_append_left _ (List.mem_append_left _ (List.mem_append_left _ (List.mem_append_left _ (List.mem_of_getElem? (i := 9) rfl))))))) dX5_fillWeights_43 ?_
      refine hz_asl (b := 1000000000) (by decide +kernel) ?_
      obtain ⟨h9a, hw⟩ := hw
      refine hz_lcmp_lt (tgt := 52) hx hb dX5_fillWeights_46 dX5_fillWeights_47 (by decide) h9a ⟨by decide, by decide⟩ (fun c_10 => ?_) (fun c_10 => ?_)
      · have hw := hw.1 c_10
        refine lv_aload_n hx hb dX5_fillWeights_52 rfl (lv_at hl 1 rfl) ?_
        refine cw_get (ci := 5) (v := .ref (r y0 3)) hx hb hts hin5 hown hK hP hO_1.1 hO_1.2 rfl 3 (by decide) (hts (.fieldLink RX5 28 "HiddenMoves$Reader" "game" "LHiddenMoves$Game;") (List.mem_cons_of_mem _ (List.mem_append_left _ (List.mem_append_left _ (List.mem_append_left _ (List.mem_append_left _ (List.mem_of_getElem? (i := 0) rfl))))))) (fun _ h9 => h9) rfl dX5_fillWeights_53 ?_
        refine cw_get (ci := 2) (v := .ref (r (r y0 3) 1)) hx hb hts hin2 hown hK hP hO_2.1 hO_2.2 rfl 1 (by decide) (hts (.fieldLink RX5 153 "HiddenMoves$Game" "sides" "[LHiddenMoves$Side;") (List.mem_cons_of_mem _ (List.mem_append_left _ (List.mem_append_left _ (List.mem_append_left _ (List.mem_append_left _ (List.mem_of_getElem? (i := 10) rfl))))))) (fun _ h9 => h9) rfl dX5_fillWeights_56 ?_
        refine lv_iconst (v := hz_i 0) hx hb dX5_fillWeights_59 (by decide +kernel) ?_
        obtain ⟨hO_11, hw⟩ := hw
        obtain ⟨h9i, hw⟩ := hw
        refine cw_ald hx hb hK hP hO_11.1 hO_11.2.2 rfl h9i hO_11.2.1 dX5_fillWeights_60 ?_
        refine lv_aload_n hx hb dX5_fillWeights_61 rfl (lv_at hl 1 rfl) ?_
        refine cw_get (ci := 5) (v := .ref (r y0 11)) hx hb hts hin5 hown hK hP hO_1.1 hO_1.2 rfl 11 (by decide) (hts (.fieldLink RX5 57 "HiddenMoves$Reader" "endDeedsOfA" "[I") (List.mem_cons_of_mem _ (List.mem_append_left _ (List.mem_append_left _ (List.mem_append_left _ (List.mem_append_left _ (List.mem_of_getElem? (i := 11) rfl))))))) (fun _ h9 => h9) rfl dX5_fillWeights_62 ?_
        refine lv_iload_n hx hb dX5_fillWeights_65 rfl (lv_at hl 2 rfl) ?_
        obtain ⟨hO_12, hw⟩ := hw
        obtain ⟨h9i, hw⟩ := hw
        refine cw_ild hx hb hK hP hO_12.1 hO_12.2.2 h9i hO_12.2.1 dX5_fillWeights_66 ?_
        obtain ⟨hO_14, hw⟩ := hw
        have hFc := cw_free hD hS hA
        obtain ⟨q9, hq9⟩ := cw_at (C := C) (z := z) (r := r) (A := A) hO_14.1 hO_14.2
        refine va_calli (va_runV (As := [.int (hz_i (A (r y0 11) (x1.toNat)))]) (rest := []) ⟨hx, hb, hml, hown, hts⟩ (k_c7_lineOf l D _ C L K z r A (cw_g K (r (r y0 3) 1) ((0 : Int).toNat)) (A (r y0 11) (x1.toNat)) _ hw) (cwV 1 hts gX5_fillWeights_X7_lineOf rfl rfl rfl (by decide +kernel) ⟨Nat.le_of_ble_eq_true rfl, Nat.le_of_ble_eq_true rfl⟩) ⟨hm_blind, va_recv hK hP (ci := 7) (q0 := q9) rfl hq9, hm_pre hP hK hD hE⟩ rfl rfl hl.1 rfl (lv_room (Nat.le_of_ble_eq_true rfl)) dX5_fillWeights_67 ⟨Nat.le_of_ble_eq_true rfl, Nat.le_of_ble_eq_true rfl⟩) hS (fun q _ h => hFc q h) hFc (fun rv u t H1 locs ht hvm hw hB hz1 hk1 hS => ?_)
        obtain ⟨rv_13, _, _, _⟩ := u
        obtain ⟨hP, hK1, hD1⟩ := hB
        rw [ht] at hP
        obtain ⟨hrv, hw⟩ := hw
        subst hrv
        have hD := hD1.weaken (fun k q _ h => hFc q.1 h)
        have hP : va_P D vwCl (cw_w C L K z r A) H1 := hP
        have hD : va_D Ad (cw_w C L K z r A) := hD
        generalize H1 = H at hP hS ⊢
        refine W.eq (g2 := F0 m 70 ls [.int (hz_i rv_13)]) rfl ?_
        refine lv_istore (lv' := [(4, .int (hz_i rv_13)), (2, .long (hz_l x2_8)), (0, .ref y0), (1, .int (hz_i x1))]) hx hb dX5_fillWeights_70 hl (by decide) rfl (fun ls hl => ?_)
        refine lv_aload_n hx hb dX5_fillWeights_72 rfl (lv_at hl 2 rfl) ?_
        refine cw_get (ci := 5) (v := .ref (r y0 3)) hx hb hts hin5 hown hK hP hO_1.1 hO_1.2 rfl 3 (by decide) (hts (.fieldLink RX5 28 "HiddenMoves$Reader" "game" "LHiddenMoves$Game;") (List.mem_cons_of_mem _ (List.mem_append_left _ (List.mem_append_left _ (List.mem_append_left _ (List.mem_append_left _ (List.mem_of_getElem? (i := 0) rfl))))))) (fun _ h9 => h9) rfl dX5_fillWeights_73 ?_
        refine cw_get (ci := 2) (v := .ref (r (r y0 3) 1)) hx hb hts hin2 hown hK hP hO_2.1 hO_2.2 rfl 1 (by decide) (hts (.fieldLink RX5 153 "HiddenMoves$Game" "sides" "[LHiddenMoves$Side;") (List.mem_cons_of_mem _ (List.mem_append_left _ (List.mem_append_left _ (List.mem_append_left _ (List.mem_append_left _ (List.mem_of_getElem? (i := 10) rfl))))))) (fun _ h9 => h9) rfl dX5_fillWeights_76 ?_
        refine lv_iconst (v := hz_i 1) hx hb dX5_fillWeights_79 (by decide +kernel) ?_
        obtain ⟨h9i, hw⟩ := hw
        refine cw_ald hx hb hK hP hO_11.1 hO_11.2.2 rfl h9i hO_11.2.1 dX5_fillWeights_80 ?_
        refine lv_aload_n hx hb dX5_fillWeights_81 rfl (lv_at hl 2 rfl) ?_
        refine cw_get (ci := 5) (v := .ref (r y0 12)) hx hb hts hin5 hown hK hP hO_1.1 hO_1.2 rfl 12 (by decide) (hts (.fieldLink RX5 61 "HiddenMoves$Reader" "endDeedsOfB" "[I") (List.mem_cons_of_mem _ (List.mem_append_left _ (List.mem_append_left _ (List.mem_append_left _ (List.mem_append_left _ (List.mem_of_getElem? (i := 12) rfl))))))) (fun _ h9 => h9) rfl dX5_fillWeights_82 ?_
        refine lv_iload_n hx hb dX5_fillWeights_85 rfl (lv_at hl 3 rfl) ?_
        obtain ⟨hO_15, hw⟩ := hw
        obtain ⟨h9i, hw⟩ := hw
        refine cw_ild hx hb hK hP hO_15.1 hO_15.2.2 h9i hO_15.2.1 dX5_fillWeights_86 ?_
        obtain ⟨hO_17, hw⟩ := hw
        have hFc := cw_free hD hS hA
        obtain ⟨q9, hq9⟩ := cw_at (C := C) (z := z) (r := r) (A := A) hO_17.1 hO_17.2
        refine va_calli (va_runV (As := [.int (hz_i (A (r y0 12) (x1.toNat)))]) (rest := []) ⟨hx, hb, hml, hown, hts⟩ (k_c7_lineOf l D _ C L K z r A (cw_g K (r (r y0 3) 1) ((1 : Int).toNat)) (A (r y0 12) (x1.toNat)) _ hw) (cwV 1 hts gX5_fillWeights_X7_lineOf rfl rfl rfl (by decide +kernel) ⟨Nat.le_of_ble_eq_true rfl, Nat.le_of_ble_eq_true rfl⟩) ⟨hm_blind, va_recv hK hP (ci := 7) (q0 := q9) rfl hq9, hm_pre hP hK hD hE⟩ rfl rfl hl.1 rfl (lv_room (Nat.le_of_ble_eq_true rfl)) dX5_fillWeights_87 ⟨Nat.le_of_ble_eq_true rfl, Nat.le_of_ble_eq_true rfl⟩) hS (fun q _ h => hFc q h) hFc (fun rv u t H1 locs ht hvm hw hB hz1 hk1 hS => ?_)
        obtain ⟨rv_16, _, _, _⟩ := u
        obtain ⟨hP, hK1, hD1⟩ := hB
        rw [ht] at hP
        obtain ⟨hrv, hw⟩ := hw
        subst hrv
        have hD := hD1.weaken (fun k q _ h => hFc q.1 h)
        have hP : va_P D vwCl (cw_w C L K z r A) H1 := hP
        have hD : va_D Ad (cw_w C L K z r A) := hD
        generalize H1 = H at hP hS ⊢
        refine W.eq (g2 := F0 m 90 ls [.int (hz_i rv_16)]) rfl ?_
        refine lv_istore (lv' := [(5, .int (hz_i rv_16)), (4, .int (hz_i rv_13)), (2, .long (hz_l x2_8)), (0, .ref y0), (1, .int (hz_i x1))]) hx hb dX5_fillWeights_90 hl (by decide) rfl (fun ls hl => ?_)
        refine lv_aload_n hx hb dX5_fillWeights_92 rfl (lv_at hl 3 rfl) ?_
        refine cw_get (ci := 5) (v := .ref (r y0 3)) hx hb hts hin5 hown hK hP hO_1.1 hO_1.2 rfl 3 (by decide) (hts (.fieldLink RX5 28 "HiddenMoves$Reader" "game" "LHiddenMoves$Game;") (List.mem_cons_of_mem _ (List.mem_append_left _ (List.mem_append_left _ (List.mem_append_left _ (List.mem_append_left _ (List.mem_of_getElem? (i := 0) rfl))))))) (fun _ h9 => h9) rfl dX5_fillWeights_93 ?_
        refine cw_get (ci := 2) (v := .ref (r (r y0 3) 3)) hx hb hts hin2 hown hK hP hO_2.1 hO_2.2 rfl 3 (by decide) (hts (.fieldLink RX5 210 "HiddenMoves$Game" "weights" "[[J") (List.mem_cons_of_mem _ (List.mem_append_left _ (List.mem_append_left _ (List.mem_append_left _ (List.mem_append_left _ (List.mem_of_getElem? (i := 13) rfl))))))) (fun _ h9 => h9) rfl dX5_fillWeights_96 ?_
        refine lv_iload hx hb dX5_fillWeights_99 (lv_at hl 1 rfl) ?_
        obtain ⟨hO_18, hw⟩ := hw
        obtain ⟨h9i, hw⟩ := hw
        refine cw_aldJ hx hb hK hP hO_18.1 hO_18.2.2 h9i hO_18.2.1 dX5_fillWeights_101 ?_
        refine lv_iload hx hb dX5_fillWeights_102 (lv_at hl 0 rfl) ?_
        refine lv_dup2_11 hx hb dX5_fillWeights_104 rfl rfl ?_
        obtain ⟨hO_19, hw⟩ := hw
        obtain ⟨h9i, hw⟩ := hw
        refine cw_lld hx hb hK hP hO_19.1 hO_19.2.2 h9i hO_19.2.1 dX5_fillWeights_105 ?_
        refine lv_lload_n hx hb dX5_fillWeights_106 rfl (lv_at hl 2 rfl) ?_
        refine hz_ladd hx hb dX5_fillWeights_107 ?_
        obtain ⟨h9i, hw⟩ := hw
        refine cw_lst (v := (A (cw_g K (r (r y0 3) 3) (rv_13.toNat)) (rv_16.toNat)) + x2_8) hx hb hK hP hD hS hO_19.1 hO_19.2.2 h9i hO_19.2.1 dX5_fillWeights_108 (fun H locs hP hD hS => ?_)
        obtain ⟨A_20, hA_20⟩ : ∃ y : Nat → Nat → Int, y = hz_s A (cw_g K (r (r y0 3) 3) (rv_13.toNat)) rv_16 ((A (cw_g K (r (r y0 3) 3) (rv_13.toNat)) (rv_16.toNat)) + x2_8) := ⟨_, rfl⟩
        rw [← hA_20] at hP hD
        have hw := hw A_20 hA_20
        obtain ⟨x1_21, hx1_21⟩ : ∃ y : Int, y = x1 + 1 := ⟨_, rfl⟩
        have hw := hw x1_21 hx1_21
        refine lv_iinc (v := hz_i x1_21) (lv' := [(1, .int (hz_i x1_21)), (5, .int (hz_i rv_16)), (4, .int (hz_i rv_13)), (2, .long (hz_l x2_8)), (0, .ref y0)]) hx hb dX5_fillWeights_109 hl (k := 4) rfl (by rw [hx1_21]; exact hz_i_add _ _) (by decide) rfl (fun ls hl => ?_)
        refine lv_goto (tgt := 2) hx hb dX5_fillWeights_112 (by decide) ?_
        exact (hP2 A_20 x1_21).mp hw H locs ls hP hD hS (lv_sub hl [4, 0] rfl)
      · have hw := hw.2 c_10
        refine lv_iconst (v := hz_i 0) hx hb dX5_fillWeights_50 (by decide +kernel) ?_
        subst hQQ
        subst hAe
        exact W.zret (v := hz_i 0) hx hb hr (hz_tZ (by decide)) (fun t ht hW => ⟨⟨hz_i 0, (0, z, r, A), rfl, ⟨rfl, hw⟩, by rw [ht]; exact hP, va_K.moved hW.alike hK, hD⟩, hS.F ht⟩) hS.2.2 dX5_fillWeights_51
  have hP := hP0; have hD := hD0; have hS := hS0; have hl := hl0; have hw := hw0
  obtain ⟨H, hH⟩ : ∃ H : Heap, H = s.heap := ⟨_, rfl⟩
  obtain ⟨locs, hlocs⟩ : ∃ L : List Loc, L = [] := ⟨_, rfl⟩
  rw [← hH] at hP
  have hS : va_S Ad s.heap H locs := by rw [hH, hlocs]; exact hS
  refine mw_HL hH hlocs ?_
  refine lv_iconst (v := hz_i 0) hx hb dX5_fillWeights_0 (by decide +kernel) ?_
  refine lv_istore_n (lv' := [(1, .int (hz_i 0)), (0, .ref y0)]) hx hb dX5_fillWeights_1 rfl hl (by decide) rfl (fun ls hl => ?_)
  exact L2 A 0 hw H locs ls hP hD hS (lv_sub hl [1, 0] rfl)
