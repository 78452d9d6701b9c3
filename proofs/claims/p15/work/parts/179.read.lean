noncomputable def wp_c5_understand_72 (L : List Nat) (K : Nat → cw_K) (z : Nat → Nat → Int) (r : Nat → Nat → Nat) (A : Nat → Nat → Int) (y0 : Nat) (Q : Int → (Nat → Nat → Int) → (Nat → Nat → Int) → Prop) : Prop := cw_O L K 5 y0 ∧ Q (z y0 1) z A
noncomputable def wp_c5_understand (L : List Nat) (K : Nat → cw_K) (z : Nat → Nat → Int) (r : Nat → Nat → Nat) (A : Nat → Nat → Int) (y0 : Nat) (Q : Int → (Nat → Nat → Int) → (Nat → Nat → Int) → Prop) : Prop := cw_O L K 5 y0 ∧ cw_O L K 2 (r y0 3) ∧ wp_c2_clear L K z r A (r y0 3) (fun z_4 A_5 => ∀ z_7 : Nat → Nat → Int, z_7 = cw_s z_4 y0 1 0 → ∀ z_8 : Nat → Nat → Int, z_8 = cw_s z_7 y0 0 (-1) → cw_O L K 10 (r y0 2) ∧ wp_c10_goToStart L K z_8 r A_5 (r y0 2) (fun z_10 => wp_c5_isOne L K z_10 r A_5 y0 (fun rv_12 z_13 A_14 => hz_rI rv_12 ∧ ((¬ rv_12 = 0 → wp_c10_goToStart L K z_13 r A_14 (r y0 2) (fun z_17 => wp_c5_node L K r 25 z_17 A_14 y0 0 1 1 (-1) (-1) (fun rv_18 z_19 A_20 => hz_rI rv_18 ∧ ((rv_18 = 0 → wp_c5_understand_72 L K z_19 r A_20 y0  Q) ∧ (¬ (rv_18 = 0) → wp_c5_finish L K z_19 r A_20 y0 (fun z_23 A_24 => wp_c5_understand_72 L K z_23 r A_24 y0  Q)))))) ∧ (rv_12 = 0 → wp_c5_refuse L K z_13 r A_14 y0 1 (z_13 (r y0 2) 3) (fun rv_25 z_26 => Q (z_26 y0 1) z_26 A_14))))))
set_option maxHeartbeats 4000000 in
set_option maxRecDepth 100000 in
theorem k_c5_understand (l : Launch) (D : va_G) (sz : Nat) (C : Nat → ClassId) (L : List Nat) (K : Nat → cw_K) (z : Nat → Nat → Int) (r : Nat → Nat → Nat) (A : Nat → Nat → Int) (y0 : Nat) (Q : Int → (Nat → Nat → Int) → (Nat → Nat → Int) → Prop) (hw : wp_c5_understand L K z r A y0 Q) : Met l yX5_understand wsX5_understand ({ frames := 101, cells := 0, slots := 0, locals := 3002 } : Room) (va_Pc [.ref y0] (hm_P D (cw_w C L K z r A) (cw_t C) sz)) (va_Qi (S := Int × (Nat → Nat → Int) × (Nat → Nat → Nat) × (Nat → Nat → Int)) (fun r u => r = hz_i u.1 ∧ Q u.1 u.2.1 u.2.2.2) (fun u t => hm_B D (va_A (cw_w C L K z r A) sz) (cw_w C L K u.2.1 r u.2.2.2) (cw_t C) t) (va_A (cw_w C L K z r A) sz)) 0 0 (va_A (cw_w C L K z r A) sz) := by
  refine Met.ofW (cc := cX5_understand) (maxL := 1) (ret := (some .int)) (by decide) rfl ?_
  intro p e s m args below meth c s₁ B hml hv
  obtain ⟨rfl, hsz, hP, hK, hD0, hE⟩ := hv
  have hx := B.exec
  have hb := B.bytes
  have hr := B.returns
  have hts := atoms_spec (ws := wsX5_understand) B.pre
  have hown : s.vm.findClass RX5 = some m.cls := findClass_of_methodNamed B.named
  have hlocks := B.notSynchronized
  have hin5 : ∀ w ∈ u_ws RX5 TX5 13, w ∈ wsX5_understand := fun w h => List.mem_cons_of_mem _ (List.mem_append_left _ (List.mem_append_left _ (List.mem_append_left _ (List.mem_append_right _ (h)))))
  have hin10 : ∀ w ∈ u_ws RX10 TX10 6, w ∈ wsX5_understand := fun w h => List.mem_cons_of_mem _ (List.mem_append_left _ (List.mem_append_left _ (List.mem_append_right _ (h))))
  subst hsz
  have hD := hD0.self (sz := s.heap.size)
  generalize hAe : va_A (cw_w C L K z r A) s.heap.size = Ad at hD ⊢
  have hA : ∀ q : Nat, s.heap.size ≤ q → Ad q := fun q h => by rw [← hAe]; exact Or.inr h
  have hS : va_S Ad s.heap s.heap [] := va_S.rf
  have hl := lv_entry ([.ref y0]) (n := 1) (Nat.le_of_ble_eq_true rfl)
  rw [lg_entry_eq]
  generalize (lg_sl ([.ref y0]) ++ List.replicate (1 - (lg_sl ([.ref y0])).length) Slot.unset).toArray = ls at hl ⊢
  have hl : lv_has ls 1 [(0, .ref y0)] := hl
  refine mw_Q (fun QQ hQQ => ?_)
  have hP0 := hP; have hD0 := hD; have hS0 := hS; have hl0 := hl; have hw0 := hw
  clear hP hD hS hl hw
  have L72 : ∀ (z : Nat → Nat → Int) (A : Nat → Nat → Int), wp_c5_understand_72 L K z r A y0  Q → ∀ (H : Heap) (locs : List Loc) (ls : Array Slot), va_P D vwCl (cw_w C L K z r A) H → va_D Ad (cw_w C L K z r A) → va_S Ad s.heap H locs → lv_has ls 1 [(0, .ref y0)] → W p l e (headSpec wsX5_understand ({ frames := 101, cells := 0, slots := 0, locals := 3002 } : Room)).room s m (List.toArray [.ref y0]) below meth c H locs 0 0 QQ (F0 m 72 ls []) := by
    intro z A hw H locs ls hP hD hS hl
    refine lv_aload_n hx hb dX5_understand_72 rfl (lv_at hl 0 rfl) ?_
    obtain ⟨hO_1, hw⟩ := hw
    refine cw_get (ci := 5) (v := .int (hz_i (z y0 1))) hx hb hts hin5 hown hK hP hO_1.1 hO_1.2 rfl 1 (by decide) (hts (.fieldLink RX5 15 "HiddenMoves$Reader" "fault" "I") (List.mem_cons_of_mem _ (List.mem_append_left _ (List.mem_append_left _ (List.mem_append_left _ (List.mem_append_left _ (List.mem_append_left _ (List.mem_of_getElem? (i := 1) rfl)))))))) (fun _ h9 => h9) rfl dX5_understand_73 ?_
    subst hQQ
    subst hAe
    exact W.iret (v := hz_i (z y0 1)) hx hb hr (fun t ht hW => ⟨⟨hz_i (z y0 1), (z y0 1, z, r, A), rfl, ⟨rfl, hw⟩, by rw [ht]; exact hP, va_K.moved hW.alike hK, hD⟩, hS.F ht⟩) hS.2.2 dX5_understand_76
  have hP := hP0; have hD := hD0; have hS := hS0; have hl := hl0; have hw := hw0
  obtain ⟨H, hH⟩ : ∃ H : Heap, H = s.heap := ⟨_, rfl⟩
  obtain ⟨locs, hlocs⟩ : ∃ L : List Loc, L = [] := ⟨_, rfl⟩
  rw [← hH] at hP
  have hS : va_S Ad s.heap H locs := by rw [hH, hlocs]; exact hS
  refine mw_HL hH hlocs ?_
  refine lv_aload_n hx hb dX5_understand_0 rfl (lv_at hl 0 rfl) ?_
  obtain ⟨hO_2, hw⟩ := hw
  refine cw_get (ci := 5) (v := .ref (r y0 3)) hx hb hts hin5 hown hK hP hO_2.1 hO_2.2 rfl 3 (by decide) (hts (.fieldLink RX5 28 "HiddenMoves$Reader" "game" "LHiddenMoves$Game;") (List.mem_cons_of_mem _ (List.mem_append_left _ (List.mem_append_left _ (List.mem_append_left _ (List.mem_append_left _ (List.mem_append_left _ (List.mem_of_getElem? (i := 0) rfl)))))))) (fun _ h9 => h9) rfl dX5_understand_1 ?_
  obtain ⟨hO_6, hw⟩ := hw
  have hFc := cw_free hD hS hA
  obtain ⟨q9, hq9⟩ := cw_at (C := C) (z := z) (r := r) (A := A) hO_6.1 hO_6.2
  refine va_callv (va_runV (As := []) (rest := []) ⟨hx, hb, hml, hown, hts⟩ (k_c2_clear l D _ C L K z r A (r y0 3) _ hw) (cwV 0 hts gX5_understand_X2_clear rfl rfl rfl (by decide +kernel) ⟨Nat.le_of_ble_eq_true rfl, Nat.le_of_ble_eq_true rfl⟩) ⟨hm_blind, va_recv hK hP (ci := 2) (q0 := q9) rfl hq9, hm_pre hP hK hD hE⟩ rfl rfl hl.1 rfl (lv_room (Nat.le_of_ble_eq_true rfl)) dX5_understand_4 ⟨Nat.le_of_ble_eq_true rfl, Nat.le_of_ble_eq_true rfl⟩) hS (fun q _ h => hFc q h) hFc (fun u t H1 locs ht hvm hw hB hz1 hk1 hS => ?_)
  obtain ⟨rv_3, z_4, _, A_5⟩ := u
  obtain ⟨hP, hK1, hD1⟩ := hB
  rw [ht] at hP
  have hD := hD1.weaken (fun k q _ h => hFc q.1 h)
  have hP : va_P D vwCl (cw_w C L K z_4 r A_5) H1 := hP
  have hD : va_D Ad (cw_w C L K z_4 r A_5) := hD
  generalize H1 = H at hP hS ⊢
  refine W.eq (g2 := F0 m 7 ls []) rfl ?_
  refine lv_aload_n hx hb dX5_understand_7 rfl (lv_at hl 0 rfl) ?_
  refine lv_iconst (v := hz_i 0) hx hb dX5_understand_8 (by decide +kernel) ?_
  refine cw_putz (ci := 5) (ty := .int) (v := .int (hz_i 0)) (x := 0) hx hb hts hin5 tyX5 tyX5_ok nmX5 hown hK hP hD hS hO_2.1 hO_2.2 rfl 1 (by decide) (hts (.fieldLink RX5 15 "HiddenMoves$Reader" "fault" "I") (List.mem_cons_of_mem _ (List.mem_append_left _ (List.mem_append_left _ (List.mem_append_left _ (List.mem_append_left _ (List.mem_append_left _ (List.mem_of_getElem? (i := 1) rfl)))))))) (fun _ h9 => h9) rfl (by decide +kernel) rfl rfl (Nat.le_of_ble_eq_true rfl) (cw_z5_1 _ _ _) dX5_understand_9 (fun H locs hP hD hS => ?_)
  obtain ⟨z_7, hz_7⟩ : ∃ y : Nat → Nat → Int, y = cw_s z_4 y0 1 0 := ⟨_, rfl⟩
  rw [← hz_7] at hP hD
  have hw := hw z_7 hz_7
  refine lv_aload_n hx hb dX5_understand_12 rfl (lv_at hl 0 rfl) ?_
  refine lv_iconst (v := hz_i (-1)) hx hb dX5_understand_13 (by decide +kernel) ?_
  refine cw_putz (ci := 5) (ty := .int) (v := .int (hz_i (-1))) (x := (-1)) hx hb hts hin5 tyX5 tyX5_ok nmX5 hown hK hP hD hS hO_2.1 hO_2.2 rfl 0 (by decide) (hts (.fieldLink RX5 9 "HiddenMoves$Reader" "faultPlace" "I") (List.mem_cons_of_mem _ (List.mem_append_left _ (List.mem_append_left _ (List.mem_append_left _ (List.mem_append_left _ (List.mem_append_left _ (List.mem_of_getElem? (i := 2) rfl)))))))) (fun _ h9 => h9) rfl (by decide +kernel) rfl rfl (Nat.le_of_ble_eq_true rfl) (cw_z5_0 _ _ _) dX5_understand_14 (fun H locs hP hD hS => ?_)
  obtain ⟨z_8, hz_8⟩ : ∃ y : Nat → Nat → Int, y = cw_s z_7 y0 0 (-1) := ⟨_, rfl⟩
  rw [← hz_8] at hP hD
  have hw := hw z_8 hz_8
  refine lv_aload_n hx hb dX5_understand_17 rfl (lv_at hl 0 rfl) ?_
  refine cw_get (ci := 5) (v := .ref (r y0 2)) hx hb hts hin5 hown hK hP hO_2.1 hO_2.2 rfl 2 (by decide) (hts (.fieldLink RX5 21 "HiddenMoves$Reader" "words" "LHiddenMoves$Words;") (List.mem_cons_of_mem _ (List.mem_append_left _ (List.mem_append_left _ (List.mem_append_left _ (List.mem_append_left _ (List.mem_append_left _ (List.mem_of_getElem? (i := 3) rfl)))))))) (fun _ h9 => h9) rfl dX5_understand_18 ?_
  obtain ⟨hO_11, hw⟩ := hw
  have hFc := cw_free hD hS hA
  obtain ⟨q9, hq9⟩ := cw_at (C := C) (z := z_8) (r := r) (A := A_5) hO_11.1 hO_11.2
  refine va_callv (va_runV (As := []) (rest := []) ⟨hx, hb, hml, hown, hts⟩ (k_c10_goToStart l D _ C L K z_8 r A_5 (r y0 2) _ hw) (cwV 0 hts gX5_understand_X10_goToStart rfl rfl rfl (by decide +kernel) ⟨Nat.le_of_ble_eq_true rfl, Nat.le_of_ble_eq_true rfl⟩) ⟨hm_blind, va_recv hK hP (ci := 10) (q0 := q9) rfl hq9, hm_pre hP hK hD hE⟩ rfl rfl hl.1 rfl (lv_room (Nat.le_of_ble_eq_true rfl)) dX5_understand_21 ⟨Nat.le_of_ble_eq_true rfl, Nat.le_of_ble_eq_true rfl⟩) hS (fun q _ h => hFc q h) hFc (fun u t H1 locs ht hvm hw hB hz1 hk1 hS => ?_)
  obtain ⟨rv_9, z_10, _, _⟩ := u
  obtain ⟨hP, hK1, hD1⟩ := hB
  rw [ht] at hP
  have hD := hD1.weaken (fun k q _ h => hFc q.1 h)
  have hP : va_P D vwCl (cw_w C L K z_10 r A_5) H1 := hP
  have hD : va_D Ad (cw_w C L K z_10 r A_5) := hD
  generalize H1 = H at hP hS ⊢
  refine W.eq (g2 := F0 m 24 ls []) rfl ?_
  refine lv_aload_n hx hb dX5_understand_24 rfl (lv_at hl 0 rfl) ?_
  have hFc := cw_free hD hS hA
  obtain ⟨q9, hq9⟩ := cw_at (C := C) (z := z_10) (r := r) (A := A_5) hO_2.1 hO_2.2
  refine va_calli (va_runV (As := []) (rest := []) ⟨hx, hb, hml, hown, hts⟩ (k_c5_isOne l D _ C L K z_10 r A_5 y0 _ hw) (cwV 0 hts gX5_understand_X5_isOne rfl rfl rfl (by decide +kernel) ⟨Nat.le_of_ble_eq_true rfl, Nat.le_of_ble_eq_true rfl⟩) ⟨hm_blind, va_recv hK hP (ci := 5) (q0 := q9) rfl hq9, hm_pre hP hK hD hE⟩ rfl rfl hl.1 rfl (lv_room (Nat.le_of_ble_eq_true rfl)) dX5_understand_25 ⟨Nat.le_of_ble_eq_true rfl, Nat.le_of_ble_eq_true rfl⟩) hS (fun q _ h => hFc q h) hFc (fun rv u t H1 locs ht hvm hw hB hz1 hk1 hS => ?_)
  obtain ⟨rv_12, z_13, _, A_14⟩ := u
  obtain ⟨hP, hK1, hD1⟩ := hB
  rw [ht] at hP
  obtain ⟨hrv, hw⟩ := hw
  subst hrv
  have hD := hD1.weaken (fun k q _ h => hFc q.1 h)
  have hP : va_P D vwCl (cw_w C L K z_13 r A_14) H1 := hP
  have hD : va_D Ad (cw_w C L K z_13 r A_14) := hD
  generalize H1 = H at hP hS ⊢
  refine W.eq (g2 := F0 m 28 ls [.int (hz_i rv_12)]) rfl ?_
  obtain ⟨h9a, hw⟩ := hw
  refine hz_if_ne (tgt := 49) hx hb dX5_understand_28 (by decide) h9a (fun c_15 => ?_) (fun c_15 => ?_)
  · have hw := hw.1 c_15
    refine lv_aload_n hx hb dX5_understand_49 rfl (lv_at hl 0 rfl) ?_
    refine cw_get (ci := 5) (v := .ref (r y0 2)) hx hb hts hin5 hown hK hP hO_2.1 hO_2.2 rfl 2 (by decide) (hts (.fieldLink RX5 21 "HiddenMoves$Reader" "words" "LHiddenMoves$Words;") (List.mem_cons_of_mem _ (List.mem_append_left _ (List.mem_append_left _ (List.mem_append_left _ (List.mem_append_left _ (List.mem_append_left _ (List.mem_of_getElem? (i := 3) rfl)))))))) (fun _ h9 => h9) rfl dX5_understand_50 ?_
    have hFc := cw_free hD hS hA
    obtain ⟨q9, hq9⟩ := cw_at (C := C) (z := z_13) (r := r) (A := A_14) hO_11.1 hO_11.2
    refine va_callv (va_runV (As := []) (rest := []) ⟨hx, hb, hml, hown, hts⟩ (k_c10_goToStart l D _ C L K z_13 r A_14 (r y0 2) _ hw) (cwV 0 hts gX5_understand_X10_goToStart rfl rfl rfl (by decide +kernel) ⟨Nat.le_of_ble_eq_true rfl, Nat.le_of_ble_eq_true rfl⟩) ⟨hm_blind, va_recv hK hP (ci := 10) (q0 := q9) rfl hq9, hm_pre hP hK hD hE⟩ rfl rfl hl.1 rfl (lv_room (Nat.le_of_ble_eq_true rfl)) dX5_understand_53 ⟨Nat.le_of_ble_eq_true rfl, Nat.le_of_ble_eq_true rfl⟩) hS (fun q _ h => hFc q h) hFc (fun u t H1 locs ht hvm hw hB hz1 hk1 hS => ?_)
    obtain ⟨rv_16, z_17, _, _⟩ := u
    obtain ⟨hP, hK1, hD1⟩ := hB
    rw [ht] at hP
    have hD := hD1.weaken (fun k q _ h => hFc q.1 h)
    have hP : va_P D vwCl (cw_w C L K z_17 r A_14) H1 := hP
    have hD : va_D Ad (cw_w C L K z_17 r A_14) := hD
    generalize H1 = H at hP hS ⊢
    refine W.eq (g2 := F0 m 56 ls []) rfl ?_
    refine lv_aload_n hx hb dX5_understand_56 rfl (lv_at hl 0 rfl) ?_
    refine lv_iconst (v := hz_i 0) hx hb dX5_understand_57 (by decide +kernel) ?_
    refine lv_lconst (v := hz_l 1) hx hb dX5_understand_58 (by decide +kernel) ?_
    refine lv_lconst (v := hz_l 1) hx hb dX5_understand_59 (by decide +kernel) ?_
    refine lv_iconst (v := hz_i (-1)) hx hb dX5_understand_60 (by decide +kernel) ?_
    refine lv_iconst (v := hz_i (-1)) hx hb dX5_understand_61 (by decide +kernel) ?_
    have hFc := cw_free hD hS hA
    obtain ⟨q9, hq9⟩ := cw_at (C := C) (z := z_17) (r := r) (A := A_14) hO_2.1 hO_2.2
    refine va_calli (va_runV (As := [.int (hz_i 0), .long (hz_l 1), .long (hz_l 1), .int (hz_i (-1)), .int (hz_i (-1))]) (rest := []) ⟨hx, hb, hml, hown, hts⟩ (k_c5_node l D C L K r 25 z_17 A_14 y0 0 1 1 (-1) (-1) _ hw _) (cwV 5 hts gX5_understand_X5_goThroughNode rfl rfl rfl (by decide +kernel) ⟨Nat.le_of_ble_eq_true rfl, Nat.le_of_ble_eq_true rfl⟩) ⟨hm_blind, va_recv hK hP (ci := 5) (q0 := q9) rfl hq9, hm_pre hP hK hD hE⟩ rfl rfl hl.1 rfl (lv_room (Nat.le_of_ble_eq_true rfl)) dX5_understand_62 ⟨Nat.le_of_ble_eq_true rfl, Nat.le_of_ble_eq_true rfl⟩) hS (fun q _ h => hFc q h) hFc (fun rv u t H1 locs ht hvm hw hB hz1 hk1 hS => ?_)
    obtain ⟨rv_18, z_19, _, A_20⟩ := u
    obtain ⟨hP, hK1, hD1⟩ := hB
    rw [ht] at hP
    obtain ⟨hrv, hw⟩ := hw
    subst hrv
    have hD := hD1.weaken (fun k q _ h => hFc q.1 h)
    have hP : va_P D vwCl (cw_w C L K z_19 r A_20) H1 := hP
    have hD : va_D Ad (cw_w C L K z_19 r A_20) := hD
    generalize H1 = H at hP hS ⊢
    refine W.eq (g2 := F0 m 65 ls [.int (hz_i rv_18)]) rfl ?_
    obtain ⟨h9a, hw⟩ := hw
    refine hz_if_eq (tgt := 72) hx hb dX5_understand_65 (by decide) h9a (fun c_21 => ?_) (fun c_21 => ?_)
    · have hw := hw.1 c_21
      exact L72 z_19 A_20 hw H locs ls hP hD hS (lv_sub hl [0] rfl)
    · have hw := hw.2 c_21
      refine lv_aload_n hx hb dX5_understand_68 rfl (lv_at hl 0 rfl) ?_
      have hFc := cw_free hD hS hA
      obtain ⟨q9, hq9⟩ := cw_at (C := C) (z := z_19) (r := r) (A := A_20) hO_2.1 hO_2.2
      refine va_callv (va_runV (As := []) (rest := []) ⟨hx, hb, hml, hown, hts⟩ (k_c5_finish l D _ C L K z_19 r A_20 y0 _ hw) (cwV 0 hts gX5_understand_X5_finish rfl rfl rfl (by decide +kernel) ⟨Nat.le_of_ble_eq_true rfl, Nat.le_of_ble_eq_true rfl⟩) ⟨hm_blind, va_recv hK hP (ci := 5) (q0 := q9) rfl hq9, hm_pre hP hK hD hE⟩ rfl rfl hl.1 rfl (lv_room (Nat.le_of_ble_eq_true rfl)) dX5_understand_69 ⟨Nat.le_of_ble_eq_true rfl, Nat.le_of_ble_eq_true rfl⟩) hS (fun q _ h => hFc q h) hFc (fun u t H1 locs ht hvm hw hB hz1 hk1 hS => ?_)
      obtain ⟨rv_22, z_23, _, A_24⟩ := u
      obtain ⟨hP, hK1, hD1⟩ := hB
      rw [ht] at hP
      have hD := hD1.weaken (fun k q _ h => hFc q.1 h)
      have hP : va_P D vwCl (cw_w C L K z_23 r A_24) H1 := hP
      have hD : va_D Ad (cw_w C L K z_23 r A_24) := hD
      generalize H1 = H at hP hS ⊢
      refine W.eq (g2 := F0 m 72 ls []) rfl ?_
      exact L72 z_23 A_24 hw H locs ls hP hD hS (lv_sub hl [0] rfl)
  · have hw := hw.2 c_15
    refine lv_aload_n hx hb dX5_understand_31 rfl (lv_at hl 0 rfl) ?_
    refine lv_iconst (v := hz_i 1) hx hb dX5_understand_32 (by decide +kernel) ?_
    refine lv_aload_n hx hb dX5_understand_33 rfl (lv_at hl 0 rfl) ?_
    refine cw_get (ci := 5) (v := .ref (r y0 2)) hx hb hts hin5 hown hK hP hO_2.1 hO_2.2 rfl 2 (by decide) (hts (.fieldLink RX5 21 "HiddenMoves$Reader" "words" "LHiddenMoves$Words;") (List.mem_cons_of_mem _ (List.mem_append_left _ (List.mem_append_left _ (List.mem_append_left _ (List.mem_append_left _ (List.mem_append_left _ (List.mem_of_getElem? (i := 3) rfl)))))))) (fun _ h9 => h9) rfl dX5_understand_34 ?_
    refine cw_get (ci := 10) (v := .int (hz_i (z_13 (r y0 2) 3))) hx hb hts hin10 hown hK hP hO_11.1 hO_11.2 rfl 3 (by decide) (hts (.fieldLink RX5 74 "HiddenMoves$Words" "begin" "I") (List.mem_cons_of_mem _ (List.mem_append_left _ (List.mem_append_left _ (List.mem_append_left _ (List.mem_append_left _ (List.mem_append_left _ (List.mem_of_getElem? (i := 4) rfl)))))))) (fun _ h9 => h9) rfl dX5_understand_37 ?_
    have hFc := cw_free hD hS hA
    obtain ⟨q9, hq9⟩ := cw_at (C := C) (z := z_13) (r := r) (A := A_14) hO_2.1 hO_2.2
    refine va_calli (va_runV (As := [.int (hz_i 1), .int (hz_i (z_13 (r y0 2) 3))]) (rest := []) ⟨hx, hb, hml, hown, hts⟩ (k_c5_refuse l D _ C L K z_13 r A_14 y0 1 (z_13 (r y0 2) 3) _ hw) (cwV 2 hts gX5_understand_X5_refuse rfl rfl rfl (by decide +kernel) ⟨Nat.le_of_ble_eq_true rfl, Nat.le_of_ble_eq_true rfl⟩) ⟨hm_blind, va_recv hK hP (ci := 5) (q0 := q9) rfl hq9, hm_pre hP hK hD hE⟩ rfl rfl hl.1 rfl (lv_room (Nat.le_of_ble_eq_true rfl)) dX5_understand_40 ⟨Nat.le_of_ble_eq_true rfl, Nat.le_of_ble_eq_true rfl⟩) hS (fun q _ h => hFc q h) hFc (fun rv u t H1 locs ht hvm hw hB hz1 hk1 hS => ?_)
    obtain ⟨rv_25, z_26, _, _⟩ := u
    obtain ⟨hP, hK1, hD1⟩ := hB
    rw [ht] at hP
    obtain ⟨hrv, hw⟩ := hw
    subst hrv
    have hD := hD1.weaken (fun k q _ h => hFc q.1 h)
    have hP : va_P D vwCl (cw_w C L K z_26 r A_14) H1 := hP
    have hD : va_D Ad (cw_w C L K z_26 r A_14) := hD
    generalize H1 = H at hP hS ⊢
    refine W.eq (g2 := F0 m 43 ls [.int (hz_i rv_25)]) rfl ?_
    refine lv_pop hx hb dX5_understand_43 rfl ?_
    refine lv_aload_n hx hb dX5_understand_44 rfl (lv_at hl 0 rfl) ?_
    refine cw_get (ci := 5) (v := .int (hz_i (z_26 y0 1))) hx hb hts hin5 hown hK hP hO_2.1 hO_2.2 rfl 1 (by decide) (hts (.fieldLink RX5 15 "HiddenMoves$Reader" "fault" "I") (List.mem_cons_of_mem _ (List.mem_append_left _ (List.mem_append_left _ (List.mem_append_left _ (List.mem_append_left _ (List.mem_append_left _ (List.mem_of_getElem? (i := 1) rfl)))))))) (fun _ h9 => h9) rfl dX5_understand_45 ?_
    subst hQQ
    subst hAe
    exact W.iret (v := hz_i (z_26 y0 1)) hx hb hr (fun t ht hW => ⟨⟨hz_i (z_26 y0 1), (z_26 y0 1, z_26, r, A_14), rfl, ⟨rfl, hw⟩, by rw [ht]; exact hP, va_K.moved hW.alike hK, hD⟩, hS.F ht⟩) hS.2.2 dX5_understand_48

noncomputable def wp_c11_read_58 (L : List Nat) (K : Nat → cw_K) (z : Nat → Nat → Int) (r : Nat → Nat → Nat) (A : Nat → Nat → Int) (x1 : Int) (Q : Int → (Nat → Nat → Int) → (Nat → Nat → Nat) → (Nat → Nat → Int) → Prop) : Prop := Q x1 z r A
noncomputable def wp_c11_read (L : List Nat) (K : Nat → cw_K) (z : Nat → Nat → Int) (r : Nat → Nat → Nat) (A : Nat → Nat → Int) (y0 : Nat) (Q : Int → (Nat → Nat → Int) → (Nat → Nat → Nat) → (Nat → Nat → Int) → Prop) : Prop := cw_O L K 11 y0 ∧ cw_O L K 5 (r y0 0) ∧ wp_c5_understand L K z r A (r y0 0) (fun rv_2 z_3 A_4 => ∀ z_6 : Nat → Nat → Int, z_6 = cw_s z_3 y0 15 (z_3 (r y0 0) 0) → cw_O L K 10 (r (r y0 0) 2) ∧ ∀ z_8 : Nat → Nat → Int, z_8 = cw_s z_6 (r (r y0 0) 2) 1 0 → hz_rI rv_2 ∧ ((¬ rv_2 = 0 → wp_c11_read_58 L K z_8 r A_4 rv_2  Q) ∧ (rv_2 = 0 → wp_c5_exchange L K z_8 r A_4 (r y0 0) (r y0 13) (fun rv_10 r_11 => ∀ r_12 : Nat → Nat → Nat, r_12 = cw_s r_11 y0 13 rv_10 → ∀ z_13 : Nat → Nat → Int, z_13 = cw_s z_8 y0 14 1 → wp_c11_startAnew L K z_13 r_12 A_4 y0 (fun z_15 A_16 => wp_c11_read_58 L K z_15 r_12 A_16 rv_2  Q)))))
set_option maxHeartbeats 4000000 in
set_option maxRecDepth 100000 in
theorem k_c11_read (l : Launch) (D : va_G) (sz : Nat) (C : Nat → ClassId) (L : List Nat) (K : Nat → cw_K) (z : Nat → Nat → Int) (r : Nat → Nat → Nat) (A : Nat → Nat → Int) (y0 : Nat) (Q : Int → (Nat → Nat → Int) → (Nat → Nat → Nat) → (Nat → Nat → Int) → Prop) (hw : wp_c11_read L K z r A y0 Q) : Met l yX11_read wsX11_read ({ frames := 102, cells := 0, slots := 0, locals := 3022 } : Room) (va_Pc [.ref y0] (hm_P D (cw_w C L K z r A) (cw_t C) sz)) (va_Qi (S := Int × (Nat → Nat → Int) × (Nat → Nat → Nat) × (Nat → Nat → Int)) (fun r u => r = hz_i u.1 ∧ Q u.1 u.2.1 u.2.2.1 u.2.2.2) (fun u t => hm_B D (va_A (cw_w C L K z r A) sz) (cw_w C L K u.2.1 u.2.2.1 u.2.2.2) (cw_t C) t) (va_A (cw_w C L K z r A) sz)) 0 0 (va_A (cw_w C L K z r A) sz) := by
  refine Met.ofW (cc := cX11_read) (maxL := 2) (ret := (some .int)) (by decide) rfl ?_
  intro p e s m args below meth c s₁ B hml hv
  obtain ⟨rfl, hsz, hP, hK, hD0, hE⟩ := hv
  have hx := B.exec
  have hb := B.bytes
  have hr := B.returns
  have hts := atoms_spec (ws := wsX11_read) B.pre
  have hown : s.vm.findClass RX11 = some m.cls := findClass_of_methodNamed B.named
  have hlocks := B.notSynchronized
  have hin5 : ∀ w ∈ u_ws RX5 TX5 13, w ∈ wsX11_read := fun w h => List.mem_cons_of_mem _ (List.mem_append_left _ (List.mem_append_left _ (List.mem_append_left _ (List.mem_append_left _ (List.mem_append_left _ (List.mem_append_right _ (h)))))))
  have hin10 : ∀ w ∈ u_ws RX10 TX10 6, w ∈ wsX11_read := fun w h => List.mem_cons_of_mem _ (List.mem_append_left _ (List.mem_append_left _ (List.mem_append_left _ (List.mem_append_left _ (List.mem_append_right _ (h))))))
  have hin11 : ∀ w ∈ u_ws RX11 TX11 16, w ∈ wsX11_read := fun w h => List.mem_cons_of_mem _ (List.mem_append_left _ (List.mem_append_left _ (List.mem_append_left _ (List.mem_append_left _ (List.mem_append_left _ (List.mem_append_left _ (List.mem_append_right _ (h))))))))
  subst hsz
  have hD := hD0.self (sz := s.heap.size)
  generalize hAe : va_A (cw_w C L K z r A) s.heap.size = Ad at hD ⊢
  have hA : ∀ q : Nat, s.heap.size ≤ q → Ad q := fun q h => by rw [← hAe]; exact Or.inr h
  have hS : va_S Ad s.heap s.heap [] := va_S.rf
  have hl := lv_entry ([.ref y0]) (n := 2) (Nat.le_of_ble_eq_true rfl)
  rw [lg_entry_eq]
  generalize (lg_sl ([.ref y0]) ++ List.replicate (2 - (lg_sl ([.ref y0])).length) Slot.unset).toArray = ls at hl ⊢
  have hl : lv_has ls 2 [(0, .ref y0)] := hl
  refine mw_Q (fun QQ hQQ => ?_)
  have hP0 := hP; have hD0 := hD; have hS0 := hS; have hl0 := hl; have hw0 := hw
  clear hP hD hS hl hw
  have L58 : ∀ (z : Nat → Nat → Int) (r : Nat → Nat → Nat) (A : Nat → Nat → Int) (x1 : Int), wp_c11_read_58 L K z r A x1  Q → ∀ (H : Heap) (locs : List Loc) (ls : Array Slot), va_P D vwCl (cw_w C L K z r A) H → va_D Ad (cw_w C L K z r A) → va_S Ad s.heap H locs → lv_has ls 2 [(1, .int (hz_i x1))] → W p l e (headSpec wsX11_read ({ frames := 102, cells := 0, slots := 0, locals := 3022 } : Room)).room s m (List.toArray [.ref y0]) below meth c H locs 0 0 QQ (F0 m 58 ls []) := by
    intro z r A x1 hw H locs ls hP hD hS hl
    refine lv_iload_n hx hb dX11_read_58 rfl (lv_at hl 0 rfl) ?_
    subst hQQ
    subst hAe
    exact W.iret (v := hz_i x1) hx hb hr (fun t ht hW => ⟨⟨hz_i x1, (x1, z, r, A), rfl, ⟨rfl, hw⟩, by rw [ht]; exact hP, va_K.moved hW.alike hK, hD⟩, hS.F ht⟩) hS.2.2 dX11_read_59
  have hP := hP0; have hD := hD0; have hS := hS0; have hl := hl0; have hw := hw0
  obtain ⟨H, hH⟩ : ∃ H : Heap, H = s.heap := ⟨_, rfl⟩
  obtain ⟨locs, hlocs⟩ : ∃ L : List Loc, L = [] := ⟨_, rfl⟩
  rw [← hH] at hP
  have hS : va_S Ad s.heap H locs := by rw [hH, hlocs]; exact hS
  refine mw_HL hH hlocs ?_
  refine lv_aload_n hx hb dX11_read_0 rfl (lv_at hl 0 rfl) ?_
  obtain ⟨hO_1, hw⟩ := hw
  refine cw_get (ci := 11) (v := .ref (r y0 0)) hx hb hts hin11 hown hK hP hO_1.1 hO_1.2 rfl 0 (by decide) (hts (.fieldLink RX11 12 "HiddenMoves" "reader" "LHiddenMoves$Reader;") (List.mem_cons_of_mem _ (List.mem_append_left _ (List.mem_append_left _ (List.mem_append_left _ (List.mem_append_left _ (List.mem_append_left _ (List.mem_append_left _ (List.mem_append_left _ (List.mem_append_left _ (List.mem_of_getElem? (i := 0) rfl))))))))))) (fun _ h9 => h9) rfl dX11_read_1 ?_
  obtain ⟨hO_5, hw⟩ := hw
  have hFc := cw_free hD hS hA
  obtain ⟨q9, hq9⟩ := cw_at (C := C) (z := z) (r := r) (A := A) hO_5.1 hO_5.2
  refine va_calli (va_runV (As := []) (rest := []) ⟨hx, hb, hml, hown, hts⟩ (k_c5_understand l D _ C L K z r A (r y0 0) _ hw) (cwV 0 hts gX11_read_X5_understand rfl rfl rfl (by decide +kernel) ⟨Nat.le_of_ble_eq_true rfl, Nat.le_of_ble_eq_true rfl⟩) ⟨hm_blind, va_recv hK hP (ci := 5) (q0 := q9) rfl hq9, hm_pre hP hK hD hE⟩ rfl rfl hl.1 rfl (lv_room (Nat.le_of_ble_eq_true rfl)) dX11_read_4 ⟨Nat.le_of_ble_eq_true rfl, Nat.le_of_ble_eq_true rfl⟩) hS (fun q _ h => hFc q h) hFc (fun rv u t H1 locs ht hvm hw hB hz1 hk1 hS => ?_)
  obtain ⟨rv_2, z_3, _, A_4⟩ := u
  obtain ⟨hP, hK1, hD1⟩ := hB
  rw [ht] at hP
  obtain ⟨hrv, hw⟩ := hw
  subst hrv
  have hD := hD1.weaken (fun k q _ h => hFc q.1 h)
  have hP : va_P D vwCl (cw_w C L K z_3 r A_4) H1 := hP
  have hD : va_D Ad (cw_w C L K z_3 r A_4) := hD
  generalize H1 = H at hP hS ⊢
  refine W.eq (g2 := F0 m 7 ls [.int (hz_i rv_2)]) rfl ?_
  refine lv_istore_n (lv' := [(1, .int (hz_i rv_2)), (0, .ref y0)]) hx hb dX11_read_7 rfl hl (by decide) rfl (fun ls hl => ?_)
  refine lv_aload_n hx hb dX11_read_8 rfl (lv_at hl 1 rfl) ?_
  refine lv_aload_n hx hb dX11_read_9 rfl (lv_at hl 1 rfl) ?_
  refine cw_get (ci := 11) (v := .ref (r y0 0)) hx hb hts hin11 hown hK hP hO_1.1 hO_1.2 rfl 0 (by decide) (hts (.fieldLink RX11 12 "HiddenMoves" "reader" "LHiddenMoves$Reader;") (List.mem_cons_of_mem _ (List.mem_append_left _ (List.mem_append_left _ (List.mem_append_left _ (List.mem_append_left _ (List.mem_append_left _ (List.mem_append_left _ (List.mem_append_left _ (List.mem_append_left _ (List.mem_of_getElem? (i := 0) rfl))))))))))) (fun _ h9 => h9) rfl dX11_read_10 ?_
  refine cw_get (ci := 5) (v := .int (hz_i (z_3 (r y0 0) 0))) hx hb hts hin5 hown hK hP hO_5.1 hO_5.2 rfl 0 (by decide) (hts (.fieldLink RX11 113 "HiddenMoves$Reader" "faultPlace" "I") (List.mem_cons_of_mem _ (List.mem_append_left _ (List.mem_append_left _ (List.mem_append_left _ (List.mem_append_left _ (List.mem_append_left _ (List.mem_append_left _ (List.mem_append_left _ (List.mem_append_left _ (List.mem_of_getElem? (i := 1) rfl))))))))))) (fun _ h9 => h9) rfl dX11_read_13 ?_
  refine cw_putz (ci := 11) (ty := .int) (v := .int (hz_i (z_3 (r y0 0) 0))) (x := z_3 (r y0 0) 0) hx hb hts hin11 tyX11 tyX11_ok nmX11 hown hK hP hD hS hO_1.1 hO_1.2 rfl 15 (by decide) (hts (.fieldLink RX11 91 "HiddenMoves" "faultPlace" "I") (List.mem_cons_of_mem _ (List.mem_append_left _ (List.mem_append_left _ (List.mem_append_left _ (List.mem_append_left _ (List.mem_append_left _ (List.mem_append_left _ (List.mem_append_left _ (List.mem_append_left _ (List.mem_of_getElem? (i := 2) rfl))))))))))) (fun _ h9 => h9) rfl (by decide +kernel) rfl rfl (Nat.le_of_ble_eq_true rfl) (cw_z11_15 _ _ _) dX11_read_16 (fun H locs hP hD hS => ?_)
  obtain ⟨z_6, hz_6⟩ : ∃ y : Nat → Nat → Int, y = cw_s z_3 y0 15 (z_3 (r y0 0) 0) := ⟨_, rfl⟩
  rw [← hz_6] at hP hD
  have hw := hw z_6 hz_6
  refine lv_aload_n hx hb dX11_read_19 rfl (lv_at hl 1 rfl) ?_
  refine cw_get (ci := 11) (v := .ref (r y0 0)) hx hb hts hin11 hown hK hP hO_1.1 hO_1.2 rfl 0 (by decide) (hts (.fieldLink RX11 12 "HiddenMoves" "reader" "LHiddenMoves$Reader;") (List.mem_cons_of_mem _ (List.mem_append_left _ (List.mem_append_left _ (List.mem_append_left _ (List.mem_append_left _ (List.mem_append_left _ (List.mem_append_left _ (List.mem_append_left _ (List.mem_append_left _ (List.mem_of_getElem? (i := 0) rfl))))))))))) (fun _ h9 => h9) rfl dX11_read_20 ?_
  refine cw_get (ci := 5) (v := .ref (r (r y0 0) 2)) hx hb hts hin5 hown hK hP hO_5.1 hO_5.2 rfl 2 (by decide) (hts (.fieldLink RX11 96 "HiddenMoves$Reader" "words" "LHiddenMoves$Words;") (List.mem_cons_of_mem _ (List.mem_append_left _ (List.mem_append_left _ (List.mem_append_left _ (List.mem_append_left _ (List.mem_append_left _ (List.mem_append_left _ (List.mem_append_left _ (List.mem_append_left _ (List.mem_of_getElem? (i := 3) rfl))))))))))) (fun _ h9 => h9) rfl dX11_read_23 ?_
  refine lv_iconst (v := hz_i 0) hx hb dX11_read_26 (by decide +kernel) ?_
  obtain ⟨hO_7, hw⟩ := hw
  refine cw_putz (ci := 10) (ty := .int) (v := .int (hz_i 0)) (x := 0) hx hb hts hin10 tyX10 tyX10_ok nmX10 hown hK hP hD hS hO_7.1 hO_7.2 rfl 1 (by decide) (hts (.fieldLink RX11 106 "HiddenMoves$Words" "length" "I") (List.mem_cons_of_mem _ (List.mem_append_left _ (List.mem_append_left _ (List.mem_append_left _ (List.mem_append_left _ (List.mem_append_left _ (List.mem_append_left _ (List.mem_append_left _ (List.mem_append_left _ (List.mem_of_getElem? (i := 4) rfl))))))))))) (fun _ h9 => h9) rfl (by decide +kernel) rfl rfl (Nat.le_of_ble_eq_true rfl) (cw_z10_1 _ _ _) dX11_read_27 (fun H locs hP hD hS => ?_)
  obtain ⟨z_8, hz_8⟩ : ∃ y : Nat → Nat → Int, y = cw_s z_6 (r (r y0 0) 2) 1 0 := ⟨_, rfl⟩
  rw [← hz_8] at hP hD
  have hw := hw z_8 hz_8
  refine lv_iload_n hx hb dX11_read_30 rfl (lv_at hl 0 rfl) ?_
  obtain ⟨h9a, hw⟩ := hw
  refine hz_if_ne (tgt := 58) hx hb dX11_read_31 (by decide) h9a (fun c_9 => ?_) (fun c_9 => ?_)
  · have hw := hw.1 c_9
    exact L58 z_8 r A_4 rv_2 hw H locs ls hP hD hS (lv_sub hl [0] rfl)
  · have hw := hw.2 c_9
    refine lv_aload_n hx hb dX11_read_34 rfl (lv_at hl 1 rfl) ?_
    refine lv_aload_n hx hb dX11_read_35 rfl (lv_at hl 1 rfl) ?_
    refine cw_get (ci := 11) (v := .ref (r y0 0)) hx hb hts hin11 hown hK hP hO_1.1 hO_1.2 rfl 0 (by decide) (hts (.fieldLink RX11 12 "HiddenMoves" "reader" "LHiddenMoves$Reader;") (List.mem_cons_of_mem _ (List.mem_append_left _ (List.mem_append_left _ (List.mem_append_left _ (List.mem_append_left _ (List.mem_append_left _ (List.mem_append_left _ (List.mem_append_left _ (List.mem_append_left _ (List.mem_of_getElem? (i := 0) rfl))))))))))) (fun _ h9 => h9) rfl dX11_read_36 ?_
    refine lv_aload_n hx hb dX11_read_39 rfl (lv_at hl 1 rfl) ?_
    refine cw_get (ci := 11) (v := .ref (r y0 13)) hx hb hts hin11 hown hK hP hO_1.1 hO_1.2 rfl 13 (by decide) (hts (.fieldLink RX11 83 "HiddenMoves" "game" "LHiddenMoves$Game;") (List.mem_cons_of_mem _ (List.mem_append_left _ (List.mem_append_left _ (List.mem_append_left _ (List.mem_append_left _ (List.mem_append_left _ (List.mem_append_left _ (List.mem_append_left _ (List.mem_append_left _ (List.mem_of_getElem? (i := 5) rfl))))))))))) (fun _ h9 => h9) rfl dX11_read_40 ?_
    have hFc := cw_free hD hS hA
    obtain ⟨q9, hq9⟩ := cw_at (C := C) (z := z_8) (r := r) (A := A_4) hO_5.1 hO_5.2
    refine va_callr (va_runV (As := [.ref (r y0 13)]) (rest := [.ref y0]) ⟨hx, hb, hml, hown, hts⟩ (k_c5_exchange l D _ C L K z_8 r A_4 (r y0 0) (r y0 13) _ hw) (cwV 1 hts gX11_read_X5_exchange rfl rfl rfl (by decide +kernel) ⟨Nat.le_of_ble_eq_true rfl, Nat.le_of_ble_eq_true rfl⟩) ⟨hm_blind, va_recv hK hP (ci := 5) (q0 := q9) rfl hq9, hm_pre hP hK hD hE⟩ rfl rfl hl.1 rfl (lv_room (Nat.le_of_ble_eq_true rfl)) dX11_read_43 ⟨Nat.le_of_ble_eq_true rfl, Nat.le_of_ble_eq_true rfl⟩) hS (fun q _ h => hFc q h) hFc (fun u ra t H1 locs ht hvm hw hB hz1 hk1 hS => ?_)
    obtain ⟨rv_10, _, r_11, _⟩ := u
    obtain ⟨hra, hP, hK1, hD1⟩ := hB
    have hra := hra.symm
    subst hra
    rw [ht] at hP
    have hD := hD1.weaken (fun k q _ h => hFc q.1 h)
    have hP : va_P D vwCl (cw_w C L K z_8 r_11 A_4) H1 := hP
    have hD : va_D Ad (cw_w C L K z_8 r_11 A_4) := hD
    generalize H1 = H at hP hS ⊢
    refine W.eq (g2 := F0 m 46 ls [.ref rv_10, .ref y0]) rfl ?_
    refine cw_putr (ci := 11) (ty := .object "HiddenMoves$Game") (v := .ref rv_10) (x := rv_10) hx hb hts hin11 tyX11 tyX11_ok nmX11 hown hK hP hD hS hO_1.1 hO_1.2 rfl 13 (by decide) (hts (.fieldLink RX11 83 "HiddenMoves" "game" "LHiddenMoves$Game;") (List.mem_cons_of_mem _ (List.mem_append_left _ (List.mem_append_left _ (List.mem_append_left _ (List.mem_append_left _ (List.mem_append_left _ (List.mem_append_left _ (List.mem_append_left _ (List.mem_append_left _ (List.mem_of_getElem? (i := 5) rfl))))))))))) (fun _ h9 => h9) rfl (by decide +kernel) rfl rfl (Nat.le_of_ble_eq_true rfl) (cw_r11_13 _ _ _) dX11_read_46 (fun H locs hP hD hS => ?_)
    obtain ⟨r_12, hr_12⟩ : ∃ y : Nat → Nat → Nat, y = cw_s r_11 y0 13 rv_10 := ⟨_, rfl⟩
    rw [← hr_12] at hP hD
    have hw := hw r_12 hr_12
    refine lv_aload_n hx hb dX11_read_49 rfl (lv_at hl 1 rfl) ?_
    refine lv_iconst (v := hz_i 1) hx hb dX11_read_50 (by decide +kernel) ?_
    refine cw_putz (ci := 11) (ty := .boolean) (v := .int (hz_i 1)) (x := 1) hx hb hts hin11 tyX11 tyX11_ok nmX11 hown hK hP hD hS hO_1.1 hO_1.2 rfl 14 (by decide) (hts (.fieldLink RX11 87 "HiddenMoves" "hasGame" "Z") (List.mem_cons_of_mem _ (List.mem_append_left _ (List.mem_append_left _ (List.mem_append_left _ (List.mem_append_left _ (List.mem_append_left _ (List.mem_append_left _ (List.mem_append_left _ (List.mem_append_left _ (List.mem_of_getElem? (i := 6) rfl))))))))))) (fun _ h9 => h9) rfl (by decide +kernel) (hz_tZ (by decide)) (hz_fZ (by decide)) (Nat.le_of_ble_eq_true rfl) (cw_z11_14 _ _ _) dX11_read_51 (fun H locs hP hD hS => ?_)
    obtain ⟨z_13, hz_13⟩ : ∃ y : Nat → Nat → Int, y = cw_s z_8 y0 14 1 := ⟨_, rfl⟩
    rw [← hz_13] at hP hD
    have hw := hw z_13 hz_13
    refine lv_aload_n hx hb dX11_read_54 rfl (lv_at hl 1 rfl) ?_
    have hFc := cw_free hD hS hA
    obtain ⟨q9, hq9⟩ := cw_at (C := C) (z := z_13) (r := r_12) (A := A_4) hO_1.1 hO_1.2
    refine va_callv (va_runV (As := []) (rest := []) ⟨hx, hb, hml, hown, hts⟩ (k_c11_startAnew l D _ C L K z_13 r_12 A_4 y0 _ hw) (cwV 0 hts gX11_read_X11_startAnew rfl rfl rfl (by decide +kernel) ⟨Nat.le_of_ble_eq_true rfl, Nat.le_of_ble_eq_true rfl⟩) ⟨hm_blind, va_recv hK hP (ci := 11) (q0 := q9) rfl hq9, hm_pre hP hK hD hE⟩ rfl rfl hl.1 rfl (lv_room (Nat.le_of_ble_eq_true rfl)) dX11_read_55 ⟨Nat.le_of_ble_eq_true rfl, Nat.le_of_ble_eq_true rfl⟩) hS (fun q _ h => hFc q h) hFc (fun u t H1 locs ht hvm hw hB hz1 hk1 hS => ?_)
    obtain ⟨rv_14, z_15, _, A_16⟩ := u
    obtain ⟨hP, hK1, hD1⟩ := hB
    rw [ht] at hP
    have hD := hD1.weaken (fun k q _ h => hFc q.1 h)
    have hP : va_P D vwCl (cw_w C L K z_15 r_12 A_16) H1 := hP
    have hD : va_D Ad (cw_w C L K z_15 r_12 A_16) := hD
    generalize H1 = H at hP hS ⊢
    refine W.eq (g2 := F0 m 58 ls []) rfl ?_
    exact L58 z_15 r_12 A_16 rv_2 hw H locs ls hP hD hS (lv_sub hl [0] rfl)

