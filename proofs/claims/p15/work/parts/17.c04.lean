-- 17.c08
noncomputable def wp_c5_finish_112 (L : List Nat) (K : Nat → cw_K) (z : Nat → Nat → Int) (r : Nat → Nat → Nat) (A : Nat → Nat → Int) (Q : (Nat → Nat → Int) → (Nat → Nat → Int) → Prop) : Prop := Q z A
noncomputable def wp_c5_finish_68 (L : List Nat) (K : Nat → cw_K) (z : Nat → Nat → Int) (r : Nat → Nat → Nat) (A : Nat → Nat → Int) (y0 : Nat) (x1 : Int) (Q : (Nat → Nat → Int) → (Nat → Nat → Int) → Prop) : Prop := ∀ P68 : (Nat → Nat → Int) → (Nat → Nat → Int) → Int → Prop, (∀ (z : Nat → Nat → Int) (A : Nat → Nat → Int) (x1 : Int), hz_rI x1 ∧ ((2 ≤ x1 → cw_O L K 5 y0 ∧ wp_c5_fillWeights L K z r A y0 (fun rv_2 A_3 => hz_rI rv_2 ∧ ((¬ rv_2 = 0 → wp_c5_finish_112 L K z r A_3  Q) ∧ (rv_2 = 0 → cw_O L K 10 (r y0 2) ∧ wp_c5_refuse L K z r A_3 y0 6 (z (r y0 2) 1) (fun rv_7 z_8 => wp_c5_finish_112 L K z_8 r A_3  Q))))) ∧ (¬ (2 ≤ x1) → cw_O L K 5 y0 ∧ cw_O L K 2 (r y0 3) ∧ cw_G L K 7 (r (r y0 3) 1) ∧ ((0 : Int) ≤ x1 ∧ x1 < (cw_n K (r (r y0 3) 1) : Int)) ∧ cw_O L K 7 (cw_g K (r (r y0 3) 1) (x1.toNat)) ∧ wp_c7_numberLines L K z r A (cw_g K (r (r y0 3) 1) (x1.toNat)) (fun z_13 A_14 => ∀ x1_16 : Int, x1_16 = x1 + 1 → P68 z_13 A_14 x1_16))) → P68 z A x1) → P68 z A x1
noncomputable def wp_c5_finish_2 (L : List Nat) (K : Nat → cw_K) (z : Nat → Nat → Int) (r : Nat → Nat → Nat) (A : Nat → Nat → Int) (y0 : Nat) (x1 : Int) (Q : (Nat → Nat → Int) → (Nat → Nat → Int) → Prop) : Prop := ∀ P2 : Int → Prop, (∀ (x1 : Int), hz_rI x1 ∧ ((2 ≤ x1 → cw_O L K 5 y0 ∧ wp_c5_findCommonNumber L K z r A y0 (fun rv_18 z_19 => hz_rI rv_18 ∧ ((¬ rv_18 = 0 → wp_c5_finish_68 L K z_19 r A y0 0  Q) ∧ (rv_18 = 0 → cw_O L K 10 (r y0 2) ∧ wp_c5_refuse L K z_19 r A y0 6 (z_19 (r y0 2) 1) (fun rv_23 z_24 => Q z_24 A))))) ∧ (¬ (2 ≤ x1) → cw_O L K 5 y0 ∧ cw_O L K 2 (r y0 3) ∧ cw_G L K 7 (r (r y0 3) 1) ∧ ((0 : Int) ≤ x1 ∧ x1 < (cw_n K (r (r y0 3) 1) : Int)) ∧ cw_O L K 7 (cw_g K (r (r y0 3) 1) (x1.toNat)) ∧ wp_c7_countPlans L K z r A (cw_g K (r (r y0 3) 1) (x1.toNat)) (fun rv_28 => hz_rI rv_28 ∧ ((rv_28 ≤ 64 → ∀ x1_31 : Int, x1_31 = x1 + 1 → P2 x1_31) ∧ (¬ (rv_28 ≤ 64) → cw_O L K 10 (r y0 2) ∧ wp_c5_refuse L K z r A y0 2 (z (r y0 2) 1) (fun rv_33 z_34 => Q z_34 A)))))) → P2 x1) → P2 x1
noncomputable def wp_c5_finish (L : List Nat) (K : Nat → cw_K) (z : Nat → Nat → Int) (r : Nat → Nat → Nat) (A : Nat → Nat → Int) (y0 : Nat) (Q : (Nat → Nat → Int) → (Nat → Nat → Int) → Prop) : Prop := wp_c5_finish_2 L K z r A y0 0  Q
set_option maxHeartbeats 4000000 in
set_option maxRecDepth 100000 in
theorem k_c5_finish (l : Launch) (D : va_G) (sz : Nat) (C : Nat → ClassId) (L : List Nat) (K : Nat → cw_K) (z : Nat → Nat → Int) (r : Nat → Nat → Nat) (A : Nat → Nat → Int) (y0 : Nat) (Q : (Nat → Nat → Int) → (Nat → Nat → Int) → Prop) (hw : wp_c5_finish L K z r A y0 Q) : Met l yX5_finish wsX5_finish ({ frames := 4, cells := 0, slots := 0, locals := 94 } : Room) (va_Pc [.ref y0] (hm_P D (cw_w C L K z r A) (cw_t C) sz)) (va_Qv (S := Int × (Nat → Nat → Int) × (Nat → Nat → Nat) × (Nat → Nat → Int)) (fun u => Q u.2.1 u.2.2.2) (fun u t => hm_B D (va_A (cw_w C L K z r A) sz) (cw_w C L K u.2.1 r u.2.2.2) (cw_t C) t) (va_A (cw_w C L K z r A) sz)) 0 0 (va_A (cw_w C L K z r A) sz) := by
  refine Met.ofW (cc := cX5_finish) (maxL := 2) (ret := none) (by decide) rfl ?_
  intro p e s m args below meth c s₁ B hml hv
  obtain ⟨rfl, hsz, hP, hK, hD0, hE⟩ := hv
  have hx := B.exec
  have hb := B.bytes
  have hr := B.returns
  have hts := atoms_spec (ws := wsX5_finish) B.pre
  have hown : s.vm.findClass RX5 = some m.cls := findClass_of_methodNamed B.named
  have hlocks := B.notSynchronized
  have hin2 : ∀ w ∈ u_ws RX2 TX2 4, w ∈ wsX5_finish := fun w h => List.mem_cons_of_mem _ (List.mem_append_left _ (List.mem_append_left _ (List.mem_append_right _ (h))))
  have hin5 : ∀ w ∈ u_ws RX5 TX5 13, w ∈ wsX5_finish := fun w h => List.mem_cons_of_mem _ (List.mem_append_left _ (List.mem_append_left _ (List.mem_append_left _ (List.mem_append_right _ (h)))))
  have hin10 : ∀ w ∈ u_ws RX10 TX10 6, w ∈ wsX5_finish := fun w h => List.mem_cons_of_mem _ (List.mem_append_left _ (List.mem_append_right _ (h)))
  subst hsz
  have hD := hD0.self (sz := s.heap.size)
  generalize hAe : va_A (cw_w C L K z r A) s.heap.size = Ad at hD ⊢
  have hA : ∀ q : Nat, s.heap.size ≤ q → Ad q := fun q h => by rw [← hAe]; exact Or.inr h
  have hS : va_S Ad s.heap s.heap [] := va_S.rf
  have hl := lv_entry ([.ref y0]) (n := 2) (Nat.le_of_ble_eq_true rfl)
  rw [lg_entry_eq]
  generalize (lg_sl ([.ref y0]) ++ List.replicate (2 - (lg_sl ([.ref y0])).length) Slot.unset).toArray = ls at hl ⊢
  have hl : lv_has ls 2 [(0, .ref y0)] := hl
  refine mw_Q (fun QQ hQQ => ?_)
  have hP0 := hP; have hD0 := hD; have hS0 := hS; have hl0 := hl; have hw0 := hw
  clear hP hD hS hl hw
  have L112 : ∀ (z : Nat → Nat → Int) (A : Nat → Nat → Int), wp_c5_finish_112 L K z r A  Q → ∀ (H : Heap) (locs : List Loc) (ls : Array Slot), va_P D vwCl (cw_w C L K z r A) H → va_D Ad (cw_w C L K z r A) → va_S Ad s.heap H locs → lv_has ls 2 [] → W p l e (headSpec wsX5_finish ({ frames := 4, cells := 0, slots := 0, locals := 94 } : Room)).room s m (List.toArray [.ref y0]) below meth c H locs 0 0 QQ (F0 m 112 ls []) := by
    intro z A hw H locs ls hP hD hS hl
    subst hQQ
    subst hAe
    exact W.vret hx hb hr (fun t ht hW => ⟨⟨(0, z, r, A), rfl, hw, by rw [ht]; exact hP, va_K.moved hW.alike hK, hD⟩, hS.F ht⟩) hS.2.2 dX5_finish_112
  have L68 : ∀ (z : Nat → Nat → Int) (A : Nat → Nat → Int) (x1 : Int), wp_c5_finish_68 L K z r A y0 x1  Q → ∀ (H : Heap) (locs : List Loc) (ls : Array Slot), va_P D vwCl (cw_w C L K z r A) H → va_D Ad (cw_w C L K z r A) → va_S Ad s.heap H locs → lv_has ls 2 [(0, .ref y0), (1, .int (hz_i x1))] → W p l e (headSpec wsX5_finish ({ frames := 4, cells := 0, slots := 0, locals := 94 } : Room)).room s m (List.toArray [.ref y0]) below meth c H locs 0 0 QQ (F0 m 68 ls []) := by
    intro z A x1 hw
    obtain ⟨P68, hP68⟩ : ∃ P : (Nat → Nat → Int) → (Nat → Nat → Int) → Int → Prop, ∀ (z : Nat → Nat → Int) (A : Nat → Nat → Int) (x1 : Int), P z A x1 ↔ (∀ (H : Heap) (locs : List Loc) (ls : Array Slot), va_P D vwCl (cw_w C L K z r A) H → va_D Ad (cw_w C L K z r A) → va_S Ad s.heap H locs → lv_has ls 2 [(0, .ref y0), (1, .int (hz_i x1))] → W p l e (headSpec wsX5_finish ({ frames := 4, cells := 0, slots := 0, locals := 94 } : Room)).room s m (List.toArray [.ref y0]) below meth c H locs 0 0 QQ (F0 m 68 ls [])) := ⟨fun (z : Nat → Nat → Int) (A : Nat → Nat → Int) (x1 : Int) => ∀ (H : Heap) (locs : List Loc) (ls : Array Slot), va_P D vwCl (cw_w C L K z r A) H → va_D Ad (cw_w C L K z r A) → va_S Ad s.heap H locs → lv_has ls 2 [(0, .ref y0), (1, .int (hz_i x1))] → W p l e (headSpec wsX5_finish ({ frames := 4, cells := 0, slots := 0, locals := 94 } : Room)).room s m (List.toArray [.ref y0]) below meth c H locs 0 0 QQ (F0 m 68 ls []), fun _ _ _ => Iff.rfl⟩
    refine (hP68 z A x1).mp (hw P68 ?_)
    intro z A x1 hw
    refine (hP68 z A x1).mpr ?_
    intro H locs ls hP hD hS hl
    refine lv_iload_n hx hb dX5_finish_68 rfl (lv_at hl 1 rfl) ?_
    refine lv_iconst (v := hz_i 2) hx hb dX5_finish_69 (by decide +kernel) ?_
    obtain ⟨h9a, hw⟩ := hw
    refine hz_icmp_ge (tgt := 91) hx hb dX5_finish_70 (by decide) h9a ⟨by decide, by decide⟩ (fun c_1 => ?_) (fun c_1 => ?_)
    · have hw := hw.1 c_1
      refine lv_aload_n hx hb dX5_finish_91 rfl (lv_at hl 0 rfl) ?_
      obtain ⟨hO_4, hw⟩ := hw
      have hFc := cw_free hD hS hA
      obtain ⟨q9, hq9⟩ := cw_at (C := C) (z := z) (r := r) (A := A) hO_4.1 hO_4.2
      refine va_calli (va_runV (As := []) (rest := []) ⟨hx, hb, hml, hown, hts⟩ (k_c5_fillWeights l D _ C L K z r A y0 _ hw) (cwV 0 hts gX5_finish_X5_fillWeights rfl rfl rfl (by decide +kernel) ⟨Nat.le_of_ble_eq_true rfl, Nat.le_of_ble_eq_true rfl⟩) ⟨hm_blind, va_recv hK hP (ci := 5) (q0 := q9) rfl hq9, hm_pre hP hK hD hE⟩ rfl rfl hl.1 rfl (lv_room (Nat.le_of_ble_eq_true rfl)) dX5_finish_92 ⟨Nat.le_of_ble_eq_true rfl, Nat.le_of_ble_eq_true rfl⟩) hS (fun q _ h => hFc q h) hFc (fun rv u t H1 locs ht hvm hw hB hz1 hk1 hS => ?_)
      obtain ⟨rv_2, _, _, A_3⟩ := u
      obtain ⟨hP, hK1, hD1⟩ := hB
      rw [ht] at hP
      obtain ⟨hrv, hw⟩ := hw
      subst hrv
      have hD := hD1.weaken (fun k q _ h => hFc q.1 h)
      have hP : va_P D vwCl (cw_w C L K z r A_3) H1 := hP
      have hD : va_D Ad (cw_w C L K z r A_3) := hD
      generalize H1 = H at hP hS ⊢
      refine W.eq (g2 := F0 m 95 ls [.int (hz_i rv_2)]) rfl ?_
      obtain ⟨h9a, hw⟩ := hw
      refine hz_if_ne (tgt := 112) hx hb dX5_finish_95 (by decide) h9a (fun c_5 => ?_) (fun c_5 => ?_)
      · have hw := hw.1 c_5
        exact L112 z A_3 hw H locs ls hP hD hS (lv_sub hl [] rfl)
      · have hw := hw.2 c_5
        refine lv_aload_n hx hb dX5_finish_98 rfl (lv_at hl 0 rfl) ?_
        refine lv_bipush (v := hz_i 6) hx hb dX5_finish_99 (by decide +kernel) ?_
        refine lv_aload_n hx hb dX5_finish_101 rfl (lv_at hl 0 rfl) ?_
        refine cw_get (ci := 5) (v := .ref (r y0 2)) hx hb hts hin5 hown hK hP hO_4.1 hO_4.2 rfl 2 (by decide) (hts (.fieldLink RX5 21 "HiddenMoves$Reader" "words" "LHiddenMoves$Words;") (List.mem_cons_of_mem _ (List.mem_append_left _ (List.mem_append_left _ (List.mem_append_left _ (List.mem_append_left _ (List.mem_append_left _ (List.mem_of_getElem? (i := 2) rfl)))))))) (fun _ h9 => h9) rfl dX5_finish_102 ?_
        obtain ⟨hO_6, hw⟩ := hw
        refine cw_get (ci := 10) (v := .int (hz_i (z (r y0 2) 1))) hx hb hts hin10 hown hK hP hO_6.1 hO_6.2 rfl 1 (by decide) (hts (.fieldLink RX5 188 "HiddenMoves$Words" "length" "I") (List.mem_cons_of_mem _ (List.mem_append_left _ (List.mem_append_left _ (List.mem_append_left _ (List.mem_append_left _ (List.mem_append_left _ (List.mem_of_getElem? (i := 3) rfl)))))))) (fun _ h9 => h9) rfl dX5_finish_105 ?_
        have hFc := cw_free hD hS hA
        obtain ⟨q9, hq9⟩ := cw_at (C := C) (z := z) (r := r) (A := A_3) hO_4.1 hO_4.2
        refine va_calli (va_runV (As := [.int (hz_i 6), .int (hz_i (z (r y0 2) 1))]) (rest := []) ⟨hx, hb, hml, hown, hts⟩ (k_c5_refuse l D _ C L K z r A_3 y0 6 (z (r y0 2) 1) _ hw) (cwV 2 hts gX5_finish_X5_refuse rfl rfl rfl (by decide +kernel) ⟨Nat.le_of_ble_eq_true rfl, Nat.le_of_ble_eq_true rfl⟩) ⟨hm_blind, va_recv hK hP (ci := 5) (q0 := q9) rfl hq9, hm_pre hP hK hD hE⟩ rfl rfl hl.1 rfl (lv_room (Nat.le_of_ble_eq_true rfl)) dX5_finish_108 ⟨Nat.le_of_ble_eq_true rfl, Nat.le_of_ble_eq_true rfl⟩) hS (fun q _ h => hFc q h) hFc (fun rv u t H1 locs ht hvm hw hB hz1 hk1 hS => ?_)
        obtain ⟨rv_7, z_8, _, _⟩ := u
        obtain ⟨hP, hK1, hD1⟩ := hB
        rw [ht] at hP
        obtain ⟨hrv, hw⟩ := hw
        subst hrv
        have hD := hD1.weaken (fun k q _ h => hFc q.1 h)
        have hP : va_P D vwCl (cw_w C L K z_8 r A_3) H1 := hP
        have hD : va_D Ad (cw_w C L K z_8 r A_3) := hD
        generalize H1 = H at hP hS ⊢
        refine W.eq (g2 := F0 m 111 ls [.int (hz_i rv_7)]) rfl ?_
        refine lv_pop hx hb dX5_finish_111 rfl ?_
        exact L112 z_8 A_3 hw H locs ls hP hD hS (lv_sub hl [] rfl)
    · have hw := hw.2 c_1
      refine lv_aload_n hx hb dX5_finish_73 rfl (lv_at hl 0 rfl) ?_
      obtain ⟨hO_9, hw⟩ := hw
      refine cw_get (ci := 5) (v := .ref (r y0 3)) hx hb hts hin5 hown hK hP hO_9.1 hO_9.2 rfl 3 (by decide) (hts (.fieldLink RX5 28 "HiddenMoves$Reader" "game" "LHiddenMoves$Game;") (List.mem_cons_of_mem _ (List.mem_append_left _ (List.mem_append_left _ (List.mem_append_left _ (List.mem_append_left _ (List.mem_append_left _ (List.mem_of_getElem? (i := 0) rfl)))))))) (fun _ h9 => h9) rfl dX5_finish_74 ?_
      obtain ⟨hO_10, hw⟩ := hw
      refine cw_get (ci := 2) (v := .ref (r (r y0 3) 1)) hx hb hts hin2 hown hK hP hO_10.1 hO_10.2 rfl 1 (by decide) (hts (.fieldLink RX5 153 "HiddenMoves$Game" "sides" "[LHiddenMoves$Side;") (List.mem_cons_of_mem _ (List.mem_append_left _ (List.mem_append_left _ (List.mem_append_left _ (List.mem_append_left _ (List.mem_append_left _ (List.mem_of_getElem? (i := 1) rfl)))))))) (fun _ h9 => h9) rfl dX5_finish_77 ?_
      refine lv_iload_n hx hb dX5_finish_80 rfl (lv_at hl 1 rfl) ?_
      obtain ⟨hO_11, hw⟩ := hw
      obtain ⟨h9i, hw⟩ := hw
      refine cw_ald hx hb hK hP hO_11.1 hO_11.2.2 rfl h9i hO_11.2.1 dX5_finish_81 ?_
      obtain ⟨hO_15, hw⟩ := hw
      have hFc := cw_free hD hS hA
      obtain ⟨q9, hq9⟩ := cw_at (C := C) (z := z) (r := r) (A := A) hO_15.1 hO_15.2
      refine va_callv (va_runV (As := []) (rest := []) ⟨hx, hb, hml, hown, hts⟩ (k_c7_numberLines l D _ C L K z r A (cw_g K (r (r y0 3) 1) (x1.toNat)) _ hw) (cwV 0 hts gX5_finish_X7_numberLines rfl rfl rfl (by decide +kernel) ⟨Nat.le_of_ble_eq_true rfl, Nat.le_of_ble_eq_true rfl⟩) ⟨hm_blind, va_recv hK hP (ci := 7) (q0 := q9) rfl hq9, hm_pre hP hK hD hE⟩ rfl rfl hl.1 rfl (lv_room (Nat.le_of_ble_eq_true rfl)) dX5_finish_82 ⟨Nat.le_of_ble_eq_true rfl, Nat.le_of_ble_eq_true rfl⟩) hS (fun q _ h => hFc q h) hFc (fun u t H1 locs ht hvm hw hB hz1 hk1 hS => ?_)
      obtain ⟨rv_12, z_13, _, A_14⟩ := u
      obtain ⟨hP, hK1, hD1⟩ := hB
      rw [ht] at hP
      have hD := hD1.weaken (fun k q _ h => hFc q.1 h)
      have hP : va_P D vwCl (cw_w C L K z_13 r A_14) H1 := hP
      have hD : va_D Ad (cw_w C L K z_13 r A_14) := hD
      generalize H1 = H at hP hS ⊢
      refine W.eq (g2 := F0 m 85 ls []) rfl ?_
      obtain ⟨x1_16, hx1_16⟩ : ∃ y : Int, y = x1 + 1 := ⟨_, rfl⟩
      have hw := hw x1_16 hx1_16
      refine lv_iinc (v := hz_i x1_16) (lv' := [(1, .int (hz_i x1_16)), (0, .ref y0)]) hx hb dX5_finish_85 hl (k := 1) rfl (by rw [hx1_16]; exact hz_i_add _ _) (by decide) rfl (fun ls hl => ?_)
      refine lv_goto (tgt := 68) hx hb dX5_finish_88 (by decide) ?_
      exact (hP68 z_13 A_14 x1_16).mp hw H locs ls hP hD hS (lv_sub hl [1, 0] rfl)
  have L2 : ∀ (z : Nat → Nat → Int) (A : Nat → Nat → Int) (x1 : Int), wp_c5_finish_2 L K z r A y0 x1  Q → ∀ (H : Heap) (locs : List Loc) (ls : Array Slot), va_P D vwCl (cw_w C L K z r A) H → va_D Ad (cw_w C L K z r A) → va_S Ad s.heap H locs → lv_has ls 2 [(0, .ref y0), (1, .int (hz_i x1))] → W p l e (headSpec wsX5_finish ({ frames := 4, cells := 0, slots := 0, locals := 94 } : Room)).room s m (List.toArray [.ref y0]) below meth c H locs 0 0 QQ (F0 m 2 ls []) := by
    intro z A x1 hw
    obtain ⟨P2, hP2⟩ : ∃ P : Int → Prop, ∀ (x1 : Int), P x1 ↔ (∀ (H : Heap) (locs : List Loc) (ls : Array Slot), va_P D vwCl (cw_w C L K z r A) H → va_D Ad (cw_w C L K z r A) → va_S Ad s.heap H locs → lv_has ls 2 [(0, .ref y0), (1, .int (hz_i x1))] → W p l e (headSpec wsX5_finish ({ frames := 4, cells := 0, slots := 0, locals := 94 } : Room)).room s m (List.toArray [.ref y0]) below meth c H locs 0 0 QQ (F0 m 2 ls [])) := ⟨fun (x1 : Int) => ∀ (H : Heap) (locs : List Loc) (ls : Array Slot), va_P D vwCl (cw_w C L K z r A) H → va_D Ad (cw_w C L K z r A) → va_S Ad s.heap H locs → lv_has ls 2 [(0, .ref y0), (1, .int (hz_i x1))] → W p l e (headSpec wsX5_finish ({ frames := 4, cells := 0, slots := 0, locals := 94 } : Room)).room s m (List.toArray [.ref y0]) below meth c H locs 0 0 QQ (F0 m 2 ls []), fun _ => Iff.rfl⟩
    refine (hP2 x1).mp (hw P2 ?_)
    intro x1 hw
    refine (hP2 x1).mpr ?_
    intro H locs ls hP hD hS hl
    refine lv_iload_n hx hb dX5_finish_2 rfl (lv_at hl 1 rfl) ?_
    refine lv_iconst (v := hz_i 2) hx hb dX5_finish_3 (by decide +kernel) ?_
    obtain ⟨h9a, hw⟩ := hw
    refine hz_icmp_ge (tgt := 44) hx hb dX5_finish_4 (by decide) h9a ⟨by decide, by decide⟩ (fun c_17 => ?_) (fun c_17 => ?_)
    · have hw := hw.1 c_17
      refine lv_aload_n hx hb dX5_finish_44 rfl (lv_at hl 0 rfl) ?_
      obtain ⟨hO_20, hw⟩ := hw
      have hFc := cw_free hD hS hA
      obtain ⟨q9, hq9⟩ := cw_at (C := C) (z := z) (r := r) (A := A) hO_20.1 hO_20.2
      refine va_calli (va_runV (As := []) (rest := []) ⟨hx, hb, hml, hown, hts⟩ (k_c5_findCommonNumber l D _ C L K z r A y0 _ hw) (cwV 0 hts gX5_finish_X5_findCommonNumber rfl rfl rfl (by decide +kernel) ⟨Nat.le_of_ble_eq_true rfl, Nat.le_of_ble_eq_true rfl⟩) ⟨hm_blind, va_recv hK hP (ci := 5) (q0 := q9) rfl hq9, hm_pre hP hK hD hE⟩ rfl rfl hl.1 rfl (lv_room (Nat.le_of_ble_eq_true rfl)) dX5_finish_45 ⟨Nat.le_of_ble_eq_true rfl, Nat.le_of_ble_eq_true rfl⟩) hS (fun q _ h => hFc q h) hFc (fun rv u t H1 locs ht hvm hw hB hz1 hk1 hS => ?_)
      obtain ⟨rv_18, z_19, _, _⟩ := u
      obtain ⟨hP, hK1, hD1⟩ := hB
      rw [ht] at hP
      obtain ⟨hrv, hw⟩ := hw
      subst hrv
      have hD := hD1.weaken (fun k q _ h => hFc q.1 h)
      have hP : va_P D vwCl (cw_w C L K z_19 r A) H1 := hP
      have hD : va_D Ad (cw_w C L K z_19 r A) := hD
      generalize H1 = H at hP hS ⊢
      refine W.eq (g2 := F0 m 48 ls [.int (hz_i rv_18)]) rfl ?_
      obtain ⟨h9a, hw⟩ := hw
      refine hz_if_ne (tgt := 66) hx hb dX5_finish_48 (by decide) h9a (fun c_21 => ?_) (fun c_21 => ?_)
      · have hw := hw.1 c_21
        refine lv_iconst (v := hz_i 0) hx hb dX5_finish_66 (by decide +kernel) ?_
        refine lv_istore_n (lv' := [(1, .int (hz_i 0)), (0, .ref y0)]) hx hb dX5_finish_67 rfl hl (by decide) rfl (fun ls hl => ?_)
        exact L68 z_19 A 0 hw H locs ls hP hD hS (lv_sub hl [1, 0] rfl)
      · have hw := hw.2 c_21
        refine lv_aload_n hx hb dX5_finish_51 rfl (lv_at hl 0 rfl) ?_
        refine lv_bipush (v := hz_i 6) hx hb dX5_finish_52 (by decide +kernel) ?_
        refine lv_aload_n hx hb dX5_finish_54 rfl (lv_at hl 0 rfl) ?_
        refine cw_get (ci := 5) (v := .ref (r y0 2)) hx hb hts hin5 hown hK hP hO_20.1 hO_20.2 rfl 2 (by decide) (hts (.fieldLink RX5 21 "HiddenMoves$Reader" "words" "LHiddenMoves$Words;") (List.mem_cons_of_mem _ (List.mem_append_left _ (List.mem_append_left _ (List.mem_append_left _ (List.mem_append_left _ (List.mem_append_left _ (List.mem_of_getElem? (i := 2) rfl)))))))) (fun _ h9 => h9) rfl dX5_finish_55 ?_
        obtain ⟨hO_22, hw⟩ := hw
        refine cw_get (ci := 10) (v := .int (hz_i (z_19 (r y0 2) 1))) hx hb hts hin10 hown hK hP hO_22.1 hO_22.2 rfl 1 (by decide) (hts (.fieldLink RX5 188 "HiddenMoves$Words" "length" "I") (List.mem_cons_of_mem _ (List.mem_append_left _ (List.mem_append_left _ (List.mem_append_left _ (List.mem_append_left _ (List.mem_append_left _ (List.mem_of_getElem? (i := 3) rfl)))))))) (fun _ h9 => h9) rfl dX5_finish_58 ?_
        have hFc := cw_free hD hS hA
        obtain ⟨q9, hq9⟩ := cw_at (C := C) (z := z_19) (r := r) (A := A) hO_20.1 hO_20.2
        refine va_calli (va_runV (As := [.int (hz_i 6), .int (hz_i (z_19 (r y0 2) 1))]) (rest := []) ⟨hx, hb, hml, hown, hts⟩ (k_c5_refuse l D _ C L K z_19 r A y0 6 (z_19 (r y0 2) 1) _ hw) (cwV 2 hts gX5_finish_X5_refuse rfl rfl rfl (by decide +kernel) ⟨Nat.le_of_ble_eq_true rfl, Nat.le_of_ble_eq_true rfl⟩) ⟨hm_blind, va_recv hK hP (ci := 5) (q0 := q9) rfl hq9, hm_pre hP hK hD hE⟩ rfl rfl hl.1 rfl (lv_room (Nat.le_of_ble_eq_true rfl)) dX5_finish_61 ⟨Nat.le_of_ble_eq_true rfl, Nat.le_of_ble_eq_true rfl⟩) hS (fun q _ h => hFc q h) hFc (fun rv u t H1 locs ht hvm hw hB hz1 hk1 hS => ?_)
        obtain ⟨rv_23, z_24, _, _⟩ := u
        obtain ⟨hP, hK1, hD1⟩ := hB
        rw [ht] at hP
        obtain ⟨hrv, hw⟩ := hw
        subst hrv
        have hD := hD1.weaken (fun k q _ h => hFc q.1 h)
        have hP : va_P D vwCl (cw_w C L K z_24 r A) H1 := hP
        have hD : va_D Ad (cw_w C L K z_24 r A) := hD
        generalize H1 = H at hP hS ⊢
        refine W.eq (g2 := F0 m 64 ls [.int (hz_i rv_23)]) rfl ?_
        refine lv_pop hx hb dX5_finish_64 rfl ?_
        subst hQQ
        subst hAe
        exact W.vret hx hb hr (fun t ht hW => ⟨⟨(0, z_24, r, A), rfl, hw, by rw [ht]; exact hP, va_K.moved hW.alike hK, hD⟩, hS.F ht⟩) hS.2.2 dX5_finish_65
    · have hw := hw.2 c_17
      refine lv_aload_n hx hb dX5_finish_7 rfl (lv_at hl 0 rfl) ?_
      obtain ⟨hO_25, hw⟩ := hw
      refine cw_get (ci := 5) (v := .ref (r y0 3)) hx hb hts hin5 hown hK hP hO_25.1 hO_25.2 rfl 3 (by decide) (hts (.fieldLink RX5 28 "HiddenMoves$Reader" "game" "LHiddenMoves$Game;") (List.mem_cons_of_mem _ (List.mem_append_left _ (List.mem_append_left _ (List.mem_append_left _ (List.mem_append_left _ (List.mem_append_left _ (List.mem_of_getElem? (i := 0) rfl)))))))) (fun _ h9 => h9) rfl dX5_finish_8 ?_
      obtain ⟨hO_26, hw⟩ := hw
      refine cw_get (ci := 2) (v := .ref (r (r y0 3) 1)) hx hb hts hin2 hown hK hP hO_26.1 hO_26.2 rfl 1 (by decide) (hts (.fieldLink RX5 153 "HiddenMoves$Game" "sides" "[LHiddenMoves$Side;") (List.mem_cons_of_mem _ (List.mem_append_left _ (List.mem_append_left _ (List.mem_append_left _ (List.mem_append_left _ (List.mem_append_left _ (List.mem_of_getElem? (i := 1) rfl)))))))) (fun _ h9 => h9) rfl dX5_finish_11 ?_
      refine lv_iload_n hx hb dX5_finish_14 rfl (lv_at hl 1 rfl) ?_
      obtain ⟨hO_27, hw⟩ := hw
      obtain ⟨h9i, hw⟩ := hw
      refine cw_ald hx hb hK hP hO_27.1 hO_27.2.2 rfl h9i hO_27.2.1 dX5_finish_15 ?_
      obtain ⟨hO_29, hw⟩ := hw
      have hFc := cw_free hD hS hA
      obtain ⟨q9, hq9⟩ := cw_at (C := C) (z := z) (r := r) (A := A) hO_29.1 hO_29.2
      refine va_calli (va_runV (As := []) (rest := []) ⟨hx, hb, hml, hown, hts⟩ (k_c7_countPlans l D _ C L K z r A (cw_g K (r (r y0 3) 1) (x1.toNat)) _ hw) (cwV 0 hts gX5_finish_X7_countPlans rfl rfl rfl (by decide +kernel) ⟨Nat.le_of_ble_eq_true rfl, Nat.le_of_ble_eq_true rfl⟩) ⟨hm_blind, va_recv hK hP (ci := 7) (q0 := q9) rfl hq9, hm_pre hP hK hD hE⟩ rfl rfl hl.1 rfl (lv_room (Nat.le_of_ble_eq_true rfl)) dX5_finish_16 ⟨Nat.le_of_ble_eq_true rfl, Nat.le_of_ble_eq_true rfl⟩) hS (fun q _ h => hFc q h) hFc (fun rv u t H1 locs ht hvm hw hB hz1 hk1 hS => ?_)
      obtain ⟨rv_28, _, _, _⟩ := u
      obtain ⟨hP, hK1, hD1⟩ := hB
      rw [ht] at hP
      obtain ⟨hrv, hw⟩ := hw
      subst hrv
      have hD := hD1.weaken (fun k q _ h => hFc q.1 h)
      have hP : va_P D vwCl (cw_w C L K z r A) H1 := hP
      have hD : va_D Ad (cw_w C L K z r A) := hD
      generalize H1 = H at hP hS ⊢
      refine W.eq (g2 := F0 m 19 ls [.int (hz_i rv_28)]) rfl ?_
      refine lv_bipush (v := hz_i 64) hx hb dX5_finish_19 (by decide +kernel) ?_
      obtain ⟨h9a, hw⟩ := hw
      refine hz_icmp_le (tgt := 38) hx hb dX5_finish_21 (by decide) h9a ⟨by decide, by decide⟩ (fun c_30 => ?_) (fun c_30 => ?_)
      · have hw := hw.1 c_30
        obtain ⟨x1_31, hx1_31⟩ : ∃ y : Int, y = x1 + 1 := ⟨_, rfl⟩
        have hw := hw x1_31 hx1_31
        refine lv_iinc (v := hz_i x1_31) (lv' := [(1, .int (hz_i x1_31)), (0, .ref y0)]) hx hb dX5_finish_38 hl (k := 1) rfl (by rw [hx1_31]; exact hz_i_add _ _) (by decide) rfl (fun ls hl => ?_)
        refine lv_goto (tgt := 2) hx hb dX5_finish_41 (by decide) ?_
        exact (hP2 x1_31).mp hw H locs ls hP hD hS (lv_sub hl [1, 0] rfl)
      · have hw := hw.2 c_30
        refine lv_aload_n hx hb dX5_finish_24 rfl (lv_at hl 0 rfl) ?_
        refine lv_iconst (v := hz_i 2) hx hb dX5_finish_25 (by decide +kernel) ?_
        refine lv_aload_n hx hb dX5_finish_26 rfl (lv_at hl 0 rfl) ?_
        refine cw_get (ci := 5) (v := .ref (r y0 2)) hx hb hts hin5 hown hK hP hO_25.1 hO_25.2 rfl 2 (by decide) (hts (.fieldLink RX5 21 "HiddenMoves$Reader" "words" "LHiddenMoves$Words;") (List.mem_cons_of_mem _ (List.mem_append_left _ (List.mem_append_left _ (List.mem_append_left _ (List.mem_append_left _ (List.mem_append_left _ (List.mem_of_getElem? (i := 2) rfl)))))))) (fun _ h9 => h9) rfl dX5_finish_27 ?_
        obtain ⟨hO_32, hw⟩ := hw
        refine cw_get (ci := 10) (v := .int (hz_i (z (r y0 2) 1))) hx hb hts hin10 hown hK hP hO_32.1 hO_32.2 rfl 1 (by decide) (hts (.fieldLink RX5 188 "HiddenMoves$Words" "length" "I") (List.mem_cons_of_mem _ (List.mem_append_left _ (List.mem_append_left _ (List.mem_append_left _ (List.mem_append_left _ (List.mem_append_left _ (List.mem_of_getElem? (i := 3) rfl)))))))) (fun _ h9 => h9) rfl dX5_finish_30 ?_
        have hFc := cw_free hD hS hA
        obtain ⟨q9, hq9⟩ := cw_at (C := C) (z := z) (r := r) (A := A) hO_25.1 hO_25.2
        refine va_calli (va_runV (As := [.int (hz_i 2), .int (hz_i (z (r y0 2) 1))]) (rest := []) ⟨hx, hb, hml, hown, hts⟩ (k_c5_refuse l D _ C L K z r A y0 2 (z (r y0 2) 1) _ hw) (cwV 2 hts gX5_finish_X5_refuse rfl rfl rfl (by decide +kernel) ⟨Nat.le_of_ble_eq_true rfl, Nat.le_of_ble_eq_true rfl⟩) ⟨hm_blind, va_recv hK hP (ci := 5) (q0 := q9) rfl hq9, hm_pre hP hK hD hE⟩ rfl rfl hl.1 rfl (lv_room (Nat.le_of_ble_eq_true rfl)) dX5_finish_33 ⟨Nat.le_of_ble_eq_true rfl, Nat.le_of_ble_eq_true rfl⟩) hS (fun q _ h => hFc q h) hFc (fun rv u t H1 locs ht hvm hw hB hz1 hk1 hS => ?_)
        obtain ⟨rv_33, z_34, _, _⟩ := u
        obtain ⟨hP, hK1, hD1⟩ := hB
        rw [ht] at hP
        obtain ⟨hrv, hw⟩ := hw
        subst hrv
        have hD := hD1.weaken (fun k q _ h => hFc q.1 h)
        have hP : va_P D vwCl (cw_w C L K z_34 r A) H1 := hP
        have hD : va_D Ad (cw_w C L K z_34 r A) := hD
        generalize H1 = H at hP hS ⊢
        refine W.eq (g2 := F0 m 36 ls [.int (hz_i rv_33)]) rfl ?_
        refine lv_pop hx hb dX5_finish_36 rfl ?_
        subst hQQ
        subst hAe
        exact W.vret hx hb hr (fun t ht hW => ⟨⟨(0, z_34, r, A), rfl, hw, by rw [ht]; exact hP, va_K.moved hW.alike hK, hD⟩, hS.F ht⟩) hS.2.2 dX5_finish_37
  have hP := hP0; have hD := hD0; have hS := hS0; have hl := hl0; have hw := hw0
  obtain ⟨H, hH⟩ : ∃ H : Heap, H = s.heap := ⟨_, rfl⟩
  obtain ⟨locs, hlocs⟩ : ∃ L : List Loc, L = [] := ⟨_, rfl⟩
  rw [← hH] at hP
  have hS : va_S Ad s.heap H locs := by rw [hH, hlocs]; exact hS
  refine mw_HL hH hlocs ?_
  refine lv_iconst (v := hz_i 0) hx hb dX5_finish_0 (by decide +kernel) ?_
  refine lv_istore_n (lv' := [(1, .int (hz_i 0)), (0, .ref y0)]) hx hb dX5_finish_1 rfl hl (by decide) rfl (fun ls hl => ?_)
  exact L2 z A 0 hw H locs ls hP hD hS (lv_sub hl [1, 0] rfl)

noncomputable def wp_c5_exchange (L : List Nat) (K : Nat → cw_K) (z : Nat → Nat → Int) (r : Nat → Nat → Nat) (A : Nat → Nat → Int) (y0 : Nat) (y1 : Nat) (Q : Nat → (Nat → Nat → Nat) → Prop) : Prop := cw_O L K 5 y0 ∧ ∀ r_2 : Nat → Nat → Nat, r_2 = cw_s r y0 3 y1 → Q (r y0 3) r_2
set_option maxHeartbeats 4000000 in
set_option maxRecDepth 100000 in
theorem k_c5_exchange (l : Launch) (D : va_G) (sz : Nat) (C : Nat → ClassId) (L : List Nat) (K : Nat → cw_K) (z : Nat → Nat → Int) (r : Nat → Nat → Nat) (A : Nat → Nat → Int) (y0 : Nat) (y1 : Nat) (Q : Nat → (Nat → Nat → Nat) → Prop) (hw : wp_c5_exchange L K z r A y0 y1 Q) : Met l yX5_exchange wsX5_exchange ({ frames := 0, cells := 0, slots := 0, locals := 0 } : Room) (va_Pc [.ref y0, .ref y1] (hm_P D (cw_w C L K z r A) (cw_t C) sz)) (va_Qr (S := Nat × (Nat → Nat → Int) × (Nat → Nat → Nat) × (Nat → Nat → Int)) (fun u => Q u.1 u.2.2.1) (fun u a t => a = u.1 ∧ hm_B D (va_A (cw_w C L K z r A) sz) (cw_w C L K z u.2.2.1 A) (cw_t C) t) (va_A (cw_w C L K z r A) sz)) 0 0 (va_A (cw_w C L K z r A) sz) := by
  refine Met.ofW (cc := cX5_exchange) (maxL := 3) (ret := (some (.object "HiddenMoves$Game"))) (by decide) rfl ?_
  intro p e s m args below meth c s₁ B hml hv
  obtain ⟨rfl, hsz, hP, hK, hD0, hE⟩ := hv
  have hx := B.exec
  have hb := B.bytes
  have hr := B.returns
  have hts := atoms_spec (ws := wsX5_exchange) B.pre
  have hown : s.vm.findClass RX5 = some m.cls := findClass_of_methodNamed B.named
  have hlocks := B.notSynchronized
  have hin5 : ∀ w ∈ u_ws RX5 TX5 13, w ∈ wsX5_exchange := fun w h => List.mem_cons_of_mem _ (List.mem_append_right _ (h))
  subst hsz
  have hD := hD0.self (sz := s.heap.size)
  generalize hAe : va_A (cw_w C L K z r A) s.heap.size = Ad at hD ⊢
  have hA : ∀ q : Nat, s.heap.size ≤ q → Ad q := fun q h => by rw [← hAe]; exact Or.inr h
  have hS : va_S Ad s.heap s.heap [] := va_S.rf
  have hl := lv_entry ([.ref y0, .ref y1]) (n := 3) (Nat.le_of_ble_eq_true rfl)
  rw [lg_entry_eq]
  generalize (lg_sl ([.ref y0, .ref y1]) ++ List.replicate (3 - (lg_sl ([.ref y0, .ref y1])).length) Slot.unset).toArray = ls at hl ⊢
  have hl : lv_has ls 3 [(0, .ref y0), (1, .ref y1)] := hl
  refine mw_Q (fun QQ hQQ => ?_)
  have hP0 := hP; have hD0 := hD; have hS0 := hS; have hl0 := hl; have hw0 := hw
  clear hP hD hS hl hw
  have hP := hP0; have hD := hD0; have hS := hS0; have hl := hl0; have hw := hw0
  obtain ⟨H, hH⟩ : ∃ H : Heap, H = s.heap := ⟨_, rfl⟩
  obtain ⟨locs, hlocs⟩ : ∃ L : List Loc, L = [] := ⟨_, rfl⟩
  rw [← hH] at hP
  have hS : va_S Ad s.heap H locs := by rw [hH, hlocs]; exact hS
  refine mw_HL hH hlocs ?_
  refine lv_aload_n hx hb dX5_exchange_0 rfl (lv_at hl 0 rfl) ?_
  obtain ⟨hO_1, hw⟩ := hw
  refine cw_get (ci := 5) (v := .ref (r y0 3)) hx hb hts hin5 hown hK hP hO_1.1 hO_1.2 rfl 3 (by decide) (hts (.fieldLink RX5 28 "HiddenMoves$Reader" "game" "LHiddenMoves$Game;") (List.mem_cons_of_mem _ (List.mem_append_left _ (List.mem_of_getElem? (i := 0) rfl)))) (fun _ h9 => h9) rfl dX5_exchange_1 ?_
  refine lv_astore_n (lv' := [(2, .ref (r y0 3)), (0, .ref y0), (1, .ref y1)]) hx hb dX5_exchange_4 rfl hl (by decide) rfl (fun ls hl => ?_)
  refine lv_aload_n hx hb dX5_exchange_5 rfl (lv_at hl 1 rfl) ?_
  refine lv_aload_n hx hb dX5_exchange_6 rfl (lv_at hl 2 rfl) ?_
  refine cw_putr (ci := 5) (ty := .object "HiddenMoves$Game") (v := .ref y1) (x := y1) hx hb hts hin5 tyX5 tyX5_ok nmX5 hown hK hP hD hS hO_1.1 hO_1.2 rfl 3 (by decide) (hts (.fieldLink RX5 28 "HiddenMoves$Reader" "game" "LHiddenMoves$Game;") (List.mem_cons_of_mem _ (List.mem_append_left _ (List.mem_of_getElem? (i := 0) rfl)))) (fun _ h9 => h9) rfl (by decide +kernel) rfl rfl (Nat.le_of_ble_eq_true rfl) (cw_r5_3 _ _ _) dX5_exchange_7 (fun H locs hP hD hS => ?_)
  obtain ⟨r_2, hr_2⟩ : ∃ y : Nat → Nat → Nat, y = cw_s r y0 3 y1 := ⟨_, rfl⟩
  rw [← hr_2] at hP hD
  have hw := hw r_2 hr_2
  refine lv_aload_n hx hb dX5_exchange_10 rfl (lv_at hl 0 rfl) ?_
  subst hQQ
  subst hAe
  exact W.aret hx hb hr (Or.inl ⟨_, rfl⟩) (Or.inr ⟨_, rfl⟩) (fun t ht hW => ⟨⟨(r y0 3, z, r_2, A), (r y0 3), rfl, hw, rfl, by rw [ht]; exact hP, va_K.moved hW.alike hK, hD⟩, hS.F ht⟩) hS.2.2 dX5_exchange_11

noncomputable def wp_c9_restart_24 (L : List Nat) (K : Nat → cw_K) (z : Nat → Nat → Int) (r : Nat → Nat → Nat) (A : Nat → Nat → Int) (y0 : Nat) (x1 : Int) (t0 : Int) (t1 : Int) (t2 : Nat) (P2 : (Nat → Nat → Int) → Int → Prop) (Q : (Nat → Nat → Int) → Prop) : Prop := cw_A L K 0 t2 ∧ ((0 : Int) ≤ t1 ∧ t1 < (cw_n K t2 : Int)) ∧ ∀ A_2 : Nat → Nat → Int, A_2 = hz_s A t2 t1 t0 → cw_O L K 9 y0 ∧ cw_A L K 0 (r y0 1) ∧ ((0 : Int) ≤ x1 ∧ x1 < (cw_n K (r y0 1) : Int)) ∧ ∀ A_5 : Nat → Nat → Int, A_5 = hz_s A_2 (r y0 1) x1 1 → ∀ x1_6 : Int, x1_6 = x1 + 1 → P2 A_5 x1_6
noncomputable def wp_c9_restart_2 (L : List Nat) (K : Nat → cw_K) (z : Nat → Nat → Int) (r : Nat → Nat → Nat) (A : Nat → Nat → Int) (y0 : Nat) (x1 : Int) (Q : (Nat → Nat → Int) → Prop) : Prop := ∀ P2 : (Nat → Nat → Int) → Int → Prop, (∀ (A : Nat → Nat → Int) (x1 : Int), hz_rI x1 ∧ ((40 ≤ x1 → Q A) ∧ (¬ (40 ≤ x1) → cw_O L K 9 y0 ∧ hz_rI x1 ∧ hz_rI (x1.tmod 4) ∧ ((¬ x1.tmod 4 = 0 → wp_c9_restart_24 L K z r A y0 x1 0 x1 (r y0 0) P2 Q) ∧ (x1.tmod 4 = 0 → wp_c9_restart_24 L K z r A y0 x1 1 x1 (r y0 0) P2 Q)))) → P2 A x1) → P2 A x1
noncomputable def wp_c9_restart (L : List Nat) (K : Nat → cw_K) (z : Nat → Nat → Int) (r : Nat → Nat → Nat) (A : Nat → Nat → Int) (y0 : Nat) (Q : (Nat → Nat → Int) → Prop) : Prop := wp_c9_restart_2 L K z r A y0 0  Q
set_option maxHeartbeats 4000000 in
set_option maxRecDepth 100000 in
theorem k_c9_restart (l : Launch) (D : va_G) (sz : Nat) (C : Nat → ClassId) (L : List Nat) (K : Nat → cw_K) (z : Nat → Nat → Int) (r : Nat → Nat → Nat) (A : Nat → Nat → Int) (y0 : Nat) (Q : (Nat → Nat → Int) → Prop) (hw : wp_c9_restart L K z r A y0 Q) : Met l yX9_restart wsX9_restart ({ frames := 0, cells := 0, slots := 0, locals := 0 } : Room) (va_Pc [.ref y0] (hm_P D (cw_w C L K z r A) (cw_t C) sz)) (va_Qv (S := Int × (Nat → Nat → Int) × (Nat → Nat → Nat) × (Nat → Nat → Int)) (fun u => Q u.2.2.2) (fun u t => hm_B D (va_A (cw_w C L K z r A) sz) (cw_w C L K z r u.2.2.2) (cw_t C) t) (va_A (cw_w C L K z r A) sz)) 0 0 (va_A (cw_w C L K z r A) sz) := by
  refine Met.ofW (cc := cX9_restart) (maxL := 2) (ret := none) (by decide) rfl ?_
  intro p e s m args below meth c s₁ B hml hv
  obtain ⟨rfl, hsz, hP, hK, hD0, hE⟩ := hv
  have hx := B.exec
  have hb := B.bytes
  have hr := B.returns
  have hts := atoms_spec (ws := wsX9_restart) B.pre
  have hown : s.vm.findClass RX9 = some m.cls := findClass_of_methodNamed B.named
  have hlocks := B.notSynchronized
  have hin9 : ∀ w ∈ u_ws RX9 TX9 3, w ∈ wsX9_restart := fun w h => List.mem_cons_of_mem _ (List.mem_append_right _ (h))
  subst hsz
  have hD := hD0.self (sz := s.heap.size)
  generalize hAe : va_A (cw_w C L K z r A) s.heap.size = Ad at hD ⊢
  have hA : ∀ q : Nat, s.heap.size ≤ q → Ad q := fun q h => by rw [← hAe]; exact Or.inr h
  have hS : va_S Ad s.heap s.heap [] := va_S.rf
  have hl := lv_entry ([.ref y0]) (n := 2) (Nat.le_of_ble_eq_true rfl)
  rw [lg_entry_eq]
  generalize (lg_sl ([.ref y0]) ++ List.replicate (2 - (lg_sl ([.ref y0])).length) Slot.unset).toArray = ls at hl ⊢
  have hl : lv_has ls 2 [(0, .ref y0)] := hl
  refine mw_Q (fun QQ hQQ => ?_)
  have hP0 := hP; have hD0 := hD; have hS0 := hS; have hl0 := hl; have hw0 := hw
  clear hP hD hS hl hw
  have L2 : ∀ (A : Nat → Nat → Int) (x1 : Int), wp_c9_restart_2 L K z r A y0 x1  Q → ∀ (H : Heap) (locs : List Loc) (ls : Array Slot), va_P D vwCl (cw_w C L K z r A) H → va_D Ad (cw_w C L K z r A) → va_S Ad s.heap H locs → lv_has ls 2 [(0, .ref y0), (1, .int (hz_i x1))] → W p l e (headSpec wsX9_restart ({ frames := 0, cells := 0, slots := 0, locals := 0 } : Room)).room s m (List.toArray [.ref y0]) below meth c H locs 0 0 QQ (F0 m 2 ls []) := by
    intro A x1 hw
    obtain ⟨P2, hP2⟩ : ∃ P : (Nat → Nat → Int) → Int → Prop, ∀ (A : Nat → Nat → Int) (x1 : Int), P A x1 ↔ (∀ (H : Heap) (locs : List Loc) (ls : Array Slot), va_P D vwCl (cw_w C L K z r A) H → va_D Ad (cw_w C L K z r A) → va_S Ad s.heap H locs → lv_has ls 2 [(0, .ref y0), (1, .int (hz_i x1))] → W p l e (headSpec wsX9_restart ({ frames := 0, cells := 0, slots := 0, locals := 0 } : Room)).room s m (List.toArray [.ref y0]) below meth c H locs 0 0 QQ (F0 m 2 ls [])) := ⟨fun (A : Nat → Nat → Int) (x1 : Int) => ∀ (H : Heap) (locs : List Loc) (ls : Array Slot), va_P D vwCl (cw_w C L K z r A) H → va_D Ad (cw_w C L K z r A) → va_S Ad s.heap H locs → lv_has ls 2 [(0, .ref y0), (1, .int (hz_i x1))] → W p l e (headSpec wsX9_restart ({ frames := 0, cells := 0, slots := 0, locals := 0 } : Room)).room s m (List.toArray [.ref y0]) below meth c H locs 0 0 QQ (F0 m 2 ls []), fun _ _ => Iff.rfl⟩
    refine (hP2 A x1).mp (hw P2 ?_)
    intro A x1 hw
    refine (hP2 A x1).mpr ?_
    intro H locs ls hP hD hS hl
    have L24 : ∀ (A : Nat → Nat → Int) (x1 : Int) (t0 : Int) (t1 : Int) (t2 : Nat), wp_c9_restart_24 L K z r A y0 x1 t0 t1 t2 P2 Q → ∀ (H : Heap) (locs : List Loc) (ls : Array Slot), va_P D vwCl (cw_w C L K z r A) H → va_D Ad (cw_w C L K z r A) → va_S Ad s.heap H locs → lv_has ls 2 [(0, .ref y0), (1, .int (hz_i x1))] → W p l e (headSpec wsX9_restart ({ frames := 0, cells := 0, slots := 0, locals := 0 } : Room)).room s m (List.toArray [.ref y0]) below meth c H locs 0 0 QQ (F0 m 24 ls [.int (hz_i t0), .int (hz_i t1), .ref t2]) := by
      intro A x1 t0 t1 t2 hw H locs ls hP hD hS hl
      obtain ⟨hO_1, hw⟩ := hw
      obtain ⟨h9i, hw⟩ := hw
      refine cw_ist (v := t0) hx hb hK hP hD hS hO_1.1 hO_1.2.2 h9i hO_1.2.1 dX9_restart_24 (fun H locs hP hD hS => ?_)
      obtain ⟨A_2, hA_2⟩ : ∃ y : Nat → Nat → Int, y = hz_s A t2 t1 t0 := ⟨_, rfl⟩
      rw [← hA_2] at hP hD
      have hw := hw A_2 hA_2
      refine lv_aload_n hx hb dX9_restart_25 rfl (lv_at hl 0 rfl) ?_
      obtain ⟨hO_3, hw⟩ := hw
      refine cw_get (ci := 9) (v := .ref (r y0 1)) hx hb hts hin9 hown hK hP hO_3.1 hO_3.2 rfl 1 (by decide) (hts (.fieldLink RX9 15 "HiddenMoves$Way" "bottoms" "[I") (List.mem_cons_of_mem _ (List.mem_append_left _ (List.mem_of_getElem? (i := 1) rfl)))) (fun _ h9 => h9) rfl dX9_restart_26 ?_
      refine lv_iload_n hx hb dX9_restart_29 rfl (lv_at hl 1 rfl) ?_
      refine lv_iconst (v := hz_i 1) hx hb dX9_restart_30 (by decide +kernel) ?_
      obtain ⟨hO_4, hw⟩ := hw
      obtain ⟨h9i, hw⟩ := hw
      refine cw_ist (v := 1) hx hb hK hP hD hS hO_4.1 hO_4.2.2 h9i hO_4.2.1 dX9_restart_31 (fun H locs hP hD hS => ?_)
      obtain ⟨A_5, hA_5⟩ : ∃ y : Nat → Nat → Int, y = hz_s A_2 (r y0 1) x1 1 := ⟨_, rfl⟩
      rw [← hA_5] at hP hD
      have hw := hw A_5 hA_5
      obtain ⟨x1_6, hx1_6⟩ : ∃ y : Int, y = x1 + 1 := ⟨_, rfl⟩
      have hw := hw x1_6 hx1_6
      refine lv_iinc (v := hz_i x1_6) (lv' := [(1, .int (hz_i x1_6)), (0, .ref y0)]) hx hb dX9_restart_32 hl (k := 1) rfl (by rw [hx1_6]; exact hz_i_add _ _) (by decide) rfl (fun ls hl => ?_)
      refine lv_goto (tgt := 2) hx hb dX9_restart_35 (by decide) ?_
      exact (hP2 A_5 x1_6).mp hw H locs ls hP hD hS (lv_sub hl [1, 0] rfl)
    refine lv_iload_n hx hb dX9_restart_2 rfl (lv_at hl 1 rfl) ?_
    refine lv_bipush (v := hz_i 40) hx hb dX9_restart_3 (by decide +kernel) ?_
    obtain ⟨h9a, hw⟩ := hw
    refine hz_icmp_ge (tgt := 38) hx hb dX9_restart_5 (by decide) h9a ⟨by decide, by decide⟩ (fun c_7 => ?_) (fun c_7 => ?_)
    · have hw := hw.1 c_7
      subst hQQ
      subst hAe
      exact W.vret hx hb hr (fun t ht hW => ⟨⟨(0, z, r, A), rfl, hw, by rw [ht]; exact hP, va_K.moved hW.alike hK, hD⟩, hS.F ht⟩) hS.2.2 dX9_restart_38
    · have hw := hw.2 c_7
      refine lv_aload_n hx hb dX9_restart_8 rfl (lv_at hl 0 rfl) ?_
      obtain ⟨hO_8, hw⟩ := hw
      refine cw_get (ci := 9) (v := .ref (r y0 0)) hx hb hts hin9 hown hK hP hO_8.1 hO_8.2 rfl 0 (by decide) (hts (.fieldLink RX9 9 "HiddenMoves$Way" "tops" "[I") (List.mem_cons_of_mem _ (List.mem_append_left _ (List.mem_of_getElem? (i := 0) rfl)))) (fun _ h9 => h9) rfl dX9_restart_9 ?_
      refine lv_iload_n hx hb dX9_restart_12 rfl (lv_at hl 1 rfl) ?_
      refine lv_iload_n hx hb dX9_restart_13 rfl (lv_at hl 1 rfl) ?_
      refine lv_iconst (v := hz_i 4) hx hb dX9_restart_14 (by decide +kernel) ?_
      obtain ⟨h9a, hw⟩ := hw
      refine hz_irem hx hb dX9_restart_15 (by decide) h9a ⟨by decide, by decide⟩ ?_
      obtain ⟨h9a, hw⟩ := hw
      refine hz_if_ne (tgt := 23) hx hb dX9_restart_16 (by decide) h9a (fun c_9 => ?_) (fun c_9 => ?_)
      · have hw := hw.1 c_9
        refine lv_iconst (v := hz_i 0) hx hb dX9_restart_23 (by decide +kernel) ?_
        exact L24 A x1 0 x1 (r y0 0) hw H locs ls hP hD hS (lv_sub hl [0, 1] rfl)
      · have hw := hw.2 c_9
        refine lv_iconst (v := hz_i 1) hx hb dX9_restart_19 (by decide +kernel) ?_
        refine lv_goto (tgt := 24) hx hb dX9_restart_20 (by decide) ?_
        exact L24 A x1 1 x1 (r y0 0) hw H locs ls hP hD hS (lv_sub hl [0, 1] rfl)
  have hP := hP0; have hD := hD0; have hS := hS0; have hl := hl0; have hw := hw0
  obtain ⟨H, hH⟩ : ∃ H : Heap, H = s.heap := ⟨_, rfl⟩
  obtain ⟨locs, hlocs⟩ : ∃ L : List Loc, L = [] := ⟨_, rfl⟩
  rw [← hH] at hP
  have hS : va_S Ad s.heap H locs := by rw [hH, hlocs]; exact hS
  refine mw_HL hH hlocs ?_
  refine lv_iconst (v := hz_i 0) hx hb dX9_restart_0 (by decide +kernel) ?_
  refine lv_istore_n (lv' := [(1, .int (hz_i 0)), (0, .ref y0)]) hx hb dX9_restart_1 rfl hl (by decide) rfl (fun ls hl => ?_)
  exact L2 A 0 hw H locs ls hP hD hS (lv_sub hl [1, 0] rfl)

noncomputable def wp_c11_startAnew_25 (L : List Nat) (K : Nat → cw_K) (z : Nat → Nat → Int) (r : Nat → Nat → Nat) (A : Nat → Nat → Int) (y0 : Nat) (x1 : Int) (Q : (Nat → Nat → Int) → (Nat → Nat → Int) → Prop) : Prop := ∀ P25 : (Nat → Nat → Int) → Int → Prop, (∀ (A : Nat → Nat → Int) (x1 : Int), hz_rI x1 ∧ ((2 ≤ x1 → Q z A) ∧ (¬ (2 ≤ x1) → cw_O L K 11 y0 ∧ cw_G L K 9 (r y0 4) ∧ ((0 : Int) ≤ x1 ∧ x1 < (cw_n K (r y0 4) : Int)) ∧ cw_O L K 9 (cw_g K (r y0 4) (x1.toNat)) ∧ wp_c9_restart L K z r A (cw_g K (r y0 4) (x1.toNat)) (fun A_5 => ∀ x1_7 : Int, x1_7 = x1 + 1 → P25 A_5 x1_7))) → P25 A x1) → P25 A x1
noncomputable def wp_c11_startAnew_2 (L : List Nat) (K : Nat → cw_K) (z : Nat → Nat → Int) (r : Nat → Nat → Nat) (A : Nat → Nat → Int) (y0 : Nat) (x1 : Int) (Q : (Nat → Nat → Int) → (Nat → Nat → Int) → Prop) : Prop := ∀ P2 : (Nat → Nat → Int) → Int → Prop, (∀ (z : Nat → Nat → Int) (x1 : Int), hz_rI x1 ∧ ((4 ≤ x1 → wp_c11_startAnew_25 L K z r A y0 0  Q) ∧ (¬ (4 ≤ x1) → cw_O L K 11 y0 ∧ cw_G L K 5 (r y0 9) ∧ ((0 : Int) ≤ x1 ∧ x1 < (cw_n K (r y0 9) : Int)) ∧ cw_O L K 4 (cw_g K (r y0 9) (x1.toNat)) ∧ ∀ z_12 : Nat → Nat → Int, z_12 = cw_s z (cw_g K (r y0 9) (x1.toNat)) 2 0 → ∀ x1_13 : Int, x1_13 = x1 + 1 → P2 z_12 x1_13)) → P2 z x1) → P2 z x1
noncomputable def wp_c11_startAnew (L : List Nat) (K : Nat → cw_K) (z : Nat → Nat → Int) (r : Nat → Nat → Nat) (A : Nat → Nat → Int) (y0 : Nat) (Q : (Nat → Nat → Int) → (Nat → Nat → Int) → Prop) : Prop := wp_c11_startAnew_2 L K z r A y0 0  Q
set_option maxHeartbeats 4000000 in
set_option maxRecDepth 100000 in
theorem k_c11_startAnew (l : Launch) (D : va_G) (sz : Nat) (C : Nat → ClassId) (L : List Nat) (K : Nat → cw_K) (z : Nat → Nat → Int) (r : Nat → Nat → Nat) (A : Nat → Nat → Int) (y0 : Nat) (Q : (Nat → Nat → Int) → (Nat → Nat → Int) → Prop) (hw : wp_c11_startAnew L K z r A y0 Q) : Met l yX11_startAnew wsX11_startAnew ({ frames := 1, cells := 0, slots := 0, locals := 21 } : Room) (va_Pc [.ref y0] (hm_P D (cw_w C L K z r A) (cw_t C) sz)) (va_Qv (S := Int × (Nat → Nat → Int) × (Nat → Nat → Nat) × (Nat → Nat → Int)) (fun u => Q u.2.1 u.2.2.2) (fun u t => hm_B D (va_A (cw_w C L K z r A) sz) (cw_w C L K u.2.1 r u.2.2.2) (cw_t C) t) (va_A (cw_w C L K z r A) sz)) 0 0 (va_A (cw_w C L K z r A) sz) := by
  refine Met.ofW (cc := cX11_startAnew) (maxL := 2) (ret := none) (by decide) rfl ?_
  intro p e s m args below meth c s₁ B hml hv
  obtain ⟨rfl, hsz, hP, hK, hD0, hE⟩ := hv
  have hx := B.exec
  have hb := B.bytes
  have hr := B.returns
  have hts := atoms_spec (ws := wsX11_startAnew) B.pre
  have hown : s.vm.findClass RX11 = some m.cls := findClass_of_methodNamed B.named
  have hlocks := B.notSynchronized
  have hin4 : ∀ w ∈ u_ws RX4 TX4 6, w ∈ wsX11_startAnew := fun w h => List.mem_cons_of_mem _ (List.mem_append_left _ (List.mem_append_right _ (h)))
  have hin11 : ∀ w ∈ u_ws RX11 TX11 16, w ∈ wsX11_startAnew := fun w h => List.mem_cons_of_mem _ (List.mem_append_left _ (List.mem_append_left _ (List.mem_append_right _ (h))))
  subst hsz
  have hD := hD0.self (sz := s.heap.size)
  generalize hAe : va_A (cw_w C L K z r A) s.heap.size = Ad at hD ⊢
  have hA : ∀ q : Nat, s.heap.size ≤ q → Ad q := fun q h => by rw [← hAe]; exact Or.inr h
  have hS : va_S Ad s.heap s.heap [] := va_S.rf
  have hl := lv_entry ([.ref y0]) (n := 2) (Nat.le_of_ble_eq_true rfl)
  rw [lg_entry_eq]
  generalize (lg_sl ([.ref y0]) ++ List.replicate (2 - (lg_sl ([.ref y0])).length) Slot.unset).toArray = ls at hl ⊢
  have hl : lv_has ls 2 [(0, .ref y0)] := hl
  refine mw_Q (fun QQ hQQ => ?_)
  have hP0 := hP; have hD0 := hD; have hS0 := hS; have hl0 := hl; have hw0 := hw
  clear hP hD hS hl hw
  have L25 : ∀ (z : Nat → Nat → Int) (A : Nat → Nat → Int) (x1 : Int), wp_c11_startAnew_25 L K z r A y0 x1  Q → ∀ (H : Heap) (locs : List Loc) (ls : Array Slot), va_P D vwCl (cw_w C L K z r A) H → va_D Ad (cw_w C L K z r A) → va_S Ad s.heap H locs → lv_has ls 2 [(0, .ref y0), (1, .int (hz_i x1))] → W p l e (headSpec wsX11_startAnew ({ frames := 1, cells := 0, slots := 0, locals := 21 } : Room)).room s m (List.toArray [.ref y0]) below meth c H locs 0 0 QQ (F0 m 25 ls []) := by
    intro z A x1 hw
    obtain ⟨P25, hP25⟩ : ∃ P : (Nat → Nat → Int) → Int → Prop, ∀ (A : Nat → Nat → Int) (x1 : Int), P A x1 ↔ (∀ (H : Heap) (locs : List Loc) (ls : Array Slot), va_P D vwCl (cw_w C L K z r A) H → va_D Ad (cw_w C L K z r A) → va_S Ad s.heap H locs → lv_has ls 2 [(0, .ref y0), (1, .int (hz_i x1))] → W p l e (headSpec wsX11_startAnew ({ frames := 1, cells := 0, slots := 0, locals := 21 } : Room)).room s m (List.toArray [.ref y0]) below meth c H locs 0 0 QQ (F0 m 25 ls [])) := ⟨fun (A : Nat → Nat → Int) (x1 : Int) => ∀ (H : Heap) (locs : List Loc) (ls : Array Slot), va_P D vwCl (cw_w C L K z r A) H → va_D Ad (cw_w C L K z r A) → va_S Ad s.heap H locs → lv_has ls 2 [(0, .ref y0), (1, .int (hz_i x1))] → W p l e (headSpec wsX11_startAnew ({ frames := 1, cells := 0, slots := 0, locals := 21 } : Room)).room s m (List.toArray [.ref y0]) below meth c H locs 0 0 QQ (F0 m 25 ls []), fun _ _ => Iff.rfl⟩
    refine (hP25 A x1).mp (hw P25 ?_)
    intro A x1 hw
    refine (hP25 A x1).mpr ?_
    intro H locs ls hP hD hS hl
    refine lv_iload_n hx hb dX11_startAnew_25 rfl (lv_at hl 1 rfl) ?_
    refine lv_iconst (v := hz_i 2) hx hb dX11_startAnew_26 (by decide +kernel) ?_
    obtain ⟨h9a, hw⟩ := hw
    refine hz_icmp_ge (tgt := 45) hx hb dX11_startAnew_27 (by decide) h9a ⟨by decide, by decide⟩ (fun c_1 => ?_) (fun c_1 => ?_)
    · have hw := hw.1 c_1
      subst hQQ
      subst hAe
      exact W.vret hx hb hr (fun t ht hW => ⟨⟨(0, z, r, A), rfl, hw, by rw [ht]; exact hP, va_K.moved hW.alike hK, hD⟩, hS.F ht⟩) hS.2.2 dX11_startAnew_45
    · have hw := hw.2 c_1
      refine lv_aload_n hx hb dX11_startAnew_30 rfl (lv_at hl 0 rfl) ?_
      obtain ⟨hO_2, hw⟩ := hw
      refine cw_get (ci := 11) (v := .ref (r y0 4)) hx hb hts hin11 hown hK hP hO_2.1 hO_2.2 rfl 4 (by decide) (hts (.fieldLink RX11 33 "HiddenMoves" "ways" "[LHiddenMoves$Way;") (List.mem_cons_of_mem _ (List.mem_append_left _ (List.mem_append_left _ (List.mem_append_left _ (List.mem_of_getElem? (i := 2) rfl)))))) (fun _ h9 => h9) rfl dX11_startAnew_31 ?_
      refine lv_iload_n hx hb dX11_startAnew_34 rfl (lv_at hl 1 rfl) ?_
      obtain ⟨hO_3, hw⟩ := hw
      obtain ⟨h9i, hw⟩ := hw
      refine cw_ald hx hb hK hP hO_3.1 hO_3.2.2 rfl h9i hO_3.2.1 dX11_startAnew_35 ?_
      obtain ⟨hO_6, hw⟩ := hw
      have hFc := cw_free hD hS hA
      obtain ⟨q9, hq9⟩ := cw_at (C := C) (z := z) (r := r) (A := A) hO_6.1 hO_6.2
      refine va_callv (va_runV (As := []) (rest := []) ⟨hx, hb, hml, hown, hts⟩ (k_c9_restart l D _ C L K z r A (cw_g K (r y0 4) (x1.toNat)) _ hw) (cwV 0 hts gX11_startAnew_X9_restart rfl rfl rfl (by decide +kernel) ⟨Nat.le_of_ble_eq_true rfl, Nat.le_of_ble_eq_true rfl⟩) ⟨hm_blind, va_recv hK hP (ci := 9) (q0 := q9) rfl hq9, hm_pre hP hK hD hE⟩ rfl rfl hl.1 rfl (lv_room (Nat.le_of_ble_eq_true rfl)) dX11_startAnew_36 ⟨Nat.le_of_ble_eq_true rfl, Nat.le_of_ble_eq_true rfl⟩) hS (fun q _ h => hFc q h) hFc (fun u t H1 locs ht hvm hw hB hz1 hk1 hS => ?_)
      obtain ⟨rv_4, _, _, A_5⟩ := u
      obtain ⟨hP, hK1, hD1⟩ := hB
      rw [ht] at hP
      have hD := hD1.weaken (fun k q _ h => hFc q.1 h)
      have hP : va_P D vwCl (cw_w C L K z r A_5) H1 := hP
      have hD : va_D Ad (cw_w C L K z r A_5) := hD
      generalize H1 = H at hP hS ⊢
      refine W.eq (g2 := F0 m 39 ls []) rfl ?_
      obtain ⟨x1_7, hx1_7⟩ : ∃ y : Int, y = x1 + 1 := ⟨_, rfl⟩
      have hw := hw x1_7 hx1_7
      refine lv_iinc (v := hz_i x1_7) (lv' := [(1, .int (hz_i x1_7)), (0, .ref y0)]) hx hb dX11_startAnew_39 hl (k := 1) rfl (by rw [hx1_7]; exact hz_i_add _ _) (by decide) rfl (fun ls hl => ?_)
      refine lv_goto (tgt := 25) hx hb dX11_startAnew_42 (by decide) ?_
      exact (hP25 A_5 x1_7).mp hw H locs ls hP hD hS (lv_sub hl [1, 0] rfl)
  have L2 : ∀ (z : Nat → Nat → Int) (A : Nat → Nat → Int) (x1 : Int), wp_c11_startAnew_2 L K z r A y0 x1  Q → ∀ (H : Heap) (locs : List Loc) (ls : Array Slot), va_P D vwCl (cw_w C L K z r A) H → va_D Ad (cw_w C L K z r A) → va_S Ad s.heap H locs → lv_has ls 2 [(0, .ref y0), (1, .int (hz_i x1))] → W p l e (headSpec wsX11_startAnew ({ frames := 1, cells := 0, slots := 0, locals := 21 } : Room)).room s m (List.toArray [.ref y0]) below meth c H locs 0 0 QQ (F0 m 2 ls []) := by
    intro z A x1 hw
    obtain ⟨P2, hP2⟩ : ∃ P : (Nat → Nat → Int) → Int → Prop, ∀ (z : Nat → Nat → Int) (x1 : Int), P z x1 ↔ (∀ (H : Heap) (locs : List Loc) (ls : Array Slot), va_P D vwCl (cw_w C L K z r A) H → va_D Ad (cw_w C L K z r A) → va_S Ad s.heap H locs → lv_has ls 2 [(0, .ref y0), (1, .int (hz_i x1))] → W p l e (headSpec wsX11_startAnew ({ frames := 1, cells := 0, slots := 0, locals := 21 } : Room)).room s m (List.toArray [.ref y0]) below meth c H locs 0 0 QQ (F0 m 2 ls [])) := ⟨fun (z : Nat → Nat → Int) (x1 : Int) => ∀ (H : Heap) (locs : List Loc) (ls : Array Slot), va_P D vwCl (cw_w C L K z r A) H → va_D Ad (cw_w C L K z r A) → va_S Ad s.heap H locs → lv_has ls 2 [(0, .ref y0), (1, .int (hz_i x1))] → W p l e (headSpec wsX11_startAnew ({ frames := 1, cells := 0, slots := 0, locals := 21 } : Room)).room s m (List.toArray [.ref y0]) below meth c H locs 0 0 QQ (F0 m 2 ls []), fun _ _ => Iff.rfl⟩
    refine (hP2 z x1).mp (hw P2 ?_)
    intro z x1 hw
    refine (hP2 z x1).mpr ?_
    intro H locs ls hP hD hS hl
    refine lv_iload_n hx hb dX11_startAnew_2 rfl (lv_at hl 1 rfl) ?_
    refine lv_iconst (v := hz_i 4) hx hb dX11_startAnew_3 (by decide +kernel) ?_
    obtain ⟨h9a, hw⟩ := hw
    refine hz_icmp_ge (tgt := 23) hx hb dX11_startAnew_4 (by decide) h9a ⟨by decide, by decide⟩ (fun c_8 => ?_) (fun c_8 => ?_)
    · have hw := hw.1 c_8
      refine lv_iconst (v := hz_i 0) hx hb dX11_startAnew_23 (by decide +kernel) ?_
      refine lv_istore_n (lv' := [(1, .int (hz_i 0)), (0, .ref y0)]) hx hb dX11_startAnew_24 rfl hl (by decide) rfl (fun ls hl => ?_)
      exact L25 z A 0 hw H locs ls hP hD hS (lv_sub hl [1, 0] rfl)
    · have hw := hw.2 c_8
      refine lv_aload_n hx hb dX11_startAnew_7 rfl (lv_at hl 0 rfl) ?_
      obtain ⟨hO_9, hw⟩ := hw
      refine cw_get (ci := 11) (v := .ref (r y0 9)) hx hb hts hin11 hown hK hP hO_9.1 hO_9.2 rfl 9 (by decide) (hts (.fieldLink RX11 59 "HiddenMoves" "results" "[LHiddenMoves$Ratio;") (List.mem_cons_of_mem _ (List.mem_append_left _ (List.mem_append_left _ (List.mem_append_left _ (List.mem_of_getElem? (i := 0) rfl)))))) (fun _ h9 => h9) rfl dX11_startAnew_8 ?_
      refine lv_iload_n hx hb dX11_startAnew_11 rfl (lv_at hl 1 rfl) ?_
      obtain ⟨hO_10, hw⟩ := hw
      obtain ⟨h9i, hw⟩ := hw
      refine cw_ald hx hb hK hP hO_10.1 hO_10.2.2 rfl h9i hO_10.2.1 dX11_startAnew_12 ?_
      refine lv_iconst (v := hz_i 0) hx hb dX11_startAnew_13 (by decide +kernel) ?_
      obtain ⟨hO_11, hw⟩ := hw
      refine cw_putz (ci := 4) (ty := .boolean) (v := .int (hz_i 0)) (x := 0) hx hb hts hin4 tyX4 tyX4_ok nmX4 hown hK hP hD hS hO_11.1 hO_11.2 rfl 2 (by decide) (hts (.fieldLink RX11 235 "HiddenMoves$Ratio" "known" "Z") (List.mem_cons_of_mem _ (List.mem_append_left _ (List.mem_append_left _ (List.mem_append_left _ (List.mem_of_getElem? (i := 1) rfl)))))) (fun _ h9 => h9) rfl (by decide +kernel) (hz_tZ (by decide)) (hz_fZ (by decide)) (Nat.le_of_ble_eq_true rfl) (cw_z4_2 _ _ _) dX11_startAnew_14 (fun H locs hP hD hS => ?_)
      obtain ⟨z_12, hz_12⟩ : ∃ y : Nat → Nat → Int, y = cw_s z (cw_g K (r y0 9) (x1.toNat)) 2 0 := ⟨_, rfl⟩
      rw [← hz_12] at hP hD
      have hw := hw z_12 hz_12
      obtain ⟨x1_13, hx1_13⟩ : ∃ y : Int, y = x1 + 1 := ⟨_, rfl⟩
      have hw := hw x1_13 hx1_13
      refine lv_iinc (v := hz_i x1_13) (lv' := [(1, .int (hz_i x1_13)), (0, .ref y0)]) hx hb dX11_startAnew_17 hl (k := 1) rfl (by rw [hx1_13]; exact hz_i_add _ _) (by decide) rfl (fun ls hl => ?_)
      refine lv_goto (tgt := 2) hx hb dX11_startAnew_20 (by decide) ?_
      exact (hP2 z_12 x1_13).mp hw H locs ls hP hD hS (lv_sub hl [1, 0] rfl)
  have hP := hP0; have hD := hD0; have hS := hS0; have hl := hl0; have hw := hw0
  obtain ⟨H, hH⟩ : ∃ H : Heap, H = s.heap := ⟨_, rfl⟩
  obtain ⟨locs, hlocs⟩ : ∃ L : List Loc, L = [] := ⟨_, rfl⟩
  rw [← hH] at hP
  have hS : va_S Ad s.heap H locs := by rw [hH, hlocs]; exact hS
  refine mw_HL hH hlocs ?_
  refine lv_iconst (v := hz_i 0) hx hb dX11_startAnew_0 (by decide +kernel) ?_
  refine lv_istore_n (lv' := [(1, .int (hz_i 0)), (0, .ref y0)]) hx hb dX11_startAnew_1 rfl hl (by decide) rfl (fun ls hl => ?_)
  exact L2 z A 0 hw H locs ls hP hD hS (lv_sub hl [1, 0] rfl)

noncomputable def wp_c7_hasSet_17 (L : List Nat) (K : Nat → cw_K) (z : Nat → Nat → Int) (r : Nat → Nat → Nat) (A : Nat → Nat → Int) (t0 : Int) (Q : Int → Prop) : Prop := (t0 = 0 ∨ t0 = 1) ∧ Q t0
noncomputable def wp_c7_hasSet_16 (L : List Nat) (K : Nat → cw_K) (z : Nat → Nat → Int) (r : Nat → Nat → Nat) (A : Nat → Nat → Int) (Q : Int → Prop) : Prop := wp_c7_hasSet_17 L K z r A 0  Q
noncomputable def wp_c7_hasSet (L : List Nat) (K : Nat → cw_K) (z : Nat → Nat → Int) (r : Nat → Nat → Nat) (A : Nat → Nat → Int) (y0 : Nat) (y1 : Int) (Q : Int → Prop) : Prop := hz_rI y1 ∧ ((y1 < 0 → wp_c7_hasSet_16 L K z r A  Q) ∧ (¬ (y1 < 0) → cw_O L K 7 y0 ∧ hz_rI y1 ∧ hz_rI (z y0 0) ∧ ((z y0 0 ≤ y1 → wp_c7_hasSet_16 L K z r A  Q) ∧ (¬ (z y0 0 ≤ y1) → wp_c7_hasSet_17 L K z r A 1  Q))))
set_option maxHeartbeats 4000000 in
set_option maxRecDepth 100000 in
theorem k_c7_hasSet (l : Launch) (D : va_G) (sz : Nat) (C : Nat → ClassId) (L : List Nat) (K : Nat → cw_K) (z : Nat → Nat → Int) (r : Nat → Nat → Nat) (A : Nat → Nat → Int) (y0 : Nat) (y1 : Int) (Q : Int → Prop) (hw : wp_c7_hasSet L K z r A y0 y1 Q) : Met l yX7_hasSet wsX7_hasSet ({ frames := 0, cells := 0, slots := 0, locals := 0 } : Room) (va_Pc [.ref y0, .int (hz_i y1)] (hm_P D (cw_w C L K z r A) (cw_t C) sz)) (va_Qi (S := Int × (Nat → Nat → Int) × (Nat → Nat → Nat) × (Nat → Nat → Int)) (fun r u => r = hz_i u.1 ∧ Q u.1) (fun u t => hm_B D (va_A (cw_w C L K z r A) sz) (cw_w C L K z r A) (cw_t C) t) (va_A (cw_w C L K z r A) sz)) 0 0 (va_A (cw_w C L K z r A) sz) := by
  refine Met.ofW (cc := cX7_hasSet) (maxL := 2) (ret := (some .boolean)) (by decide) rfl ?_
  intro p e s m args below meth c s₁ B hml hv
  obtain ⟨rfl, hsz, hP, hK, hD0, hE⟩ := hv
  have hx := B.exec
  have hb := B.bytes
  have hr := B.returns
  have hts := atoms_spec (ws := wsX7_hasSet) B.pre
  have hown : s.vm.findClass RX7 = some m.cls := findClass_of_methodNamed B.named
  have hlocks := B.notSynchronized
  have hin7 : ∀ w ∈ u_ws RX7 TX7 8, w ∈ wsX7_hasSet := fun w h => List.mem_cons_of_mem _ (List.mem_append_right _ (h))
  subst hsz
  have hD := hD0.self (sz := s.heap.size)
  generalize hAe : va_A (cw_w C L K z r A) s.heap.size = Ad at hD ⊢
  have hA : ∀ q : Nat, s.heap.size ≤ q → Ad q := fun q h => by rw [← hAe]; exact Or.inr h
  have hS : va_S Ad s.heap s.heap [] := va_S.rf
  have hl := lv_entry ([.ref y0, .int (hz_i y1)]) (n := 2) (Nat.le_of_ble_eq_true rfl)
  rw [lg_entry_eq]
  generalize (lg_sl ([.ref y0, .int (hz_i y1)]) ++ List.replicate (2 - (lg_sl ([.ref y0, .int (hz_i y1)])).length) Slot.unset).toArray = ls at hl ⊢
  have hl : lv_has ls 2 [(0, .ref y0), (1, .int (hz_i y1))] := hl
  refine mw_Q (fun QQ hQQ => ?_)
  have hP0 := hP; have hD0 := hD; have hS0 := hS; have hl0 := hl; have hw0 := hw
  clear hP hD hS hl hw
  have L17 : ∀ (t0 : Int), wp_c7_hasSet_17 L K z r A t0  Q → ∀ (H : Heap) (locs : List Loc) (ls : Array Slot), va_P D vwCl (cw_w C L K z r A) H → va_D Ad (cw_w C L K z r A) → va_S Ad s.heap H locs → lv_has ls 2 [] → W p l e (headSpec wsX7_hasSet ({ frames := 0, cells := 0, slots := 0, locals := 0 } : Room)).room s m (List.toArray [.ref y0, .int (hz_i y1)]) below meth c H locs 0 0 QQ (F0 m 17 ls [.int (hz_i t0)]) := by
    intro t0 hw H locs ls hP hD hS hl
    obtain ⟨h9z, hw⟩ := hw
    subst hQQ
    subst hAe
    exact W.zret (v := hz_i t0) hx hb hr (hz_tZ h9z) (fun t ht hW => ⟨⟨hz_i t0, (t0, z, r, A), rfl, ⟨rfl, hw⟩, by rw [ht]; exact hP, va_K.moved hW.alike hK, hD⟩, hS.F ht⟩) hS.2.2 dX7_hasSet_17
  have L16 : wp_c7_hasSet_16 L K z r A  Q → ∀ (H : Heap) (locs : List Loc) (ls : Array Slot), va_P D vwCl (cw_w C L K z r A) H → va_D Ad (cw_w C L K z r A) → va_S Ad s.heap H locs → lv_has ls 2 [] → W p l e (headSpec wsX7_hasSet ({ frames := 0, cells := 0, slots := 0, locals := 0 } : Room)).room s m (List.toArray [.ref y0, .int (hz_i y1)]) below meth c H locs 0 0 QQ (F0 m 16 ls []) := by
    intro  hw H locs ls hP hD hS hl
    refine lv_iconst (v := hz_i 0) hx hb dX7_hasSet_16 (by decide +kernel) ?_
    exact L17 0 hw H locs ls hP hD hS (lv_sub hl [] rfl)
  have hP := hP0; have hD := hD0; have hS := hS0; have hl := hl0; have hw := hw0
  obtain ⟨H, hH⟩ : ∃ H : Heap, H = s.heap := ⟨_, rfl⟩
  obtain ⟨locs, hlocs⟩ : ∃ L : List Loc, L = [] := ⟨_, rfl⟩
  rw [← hH] at hP
  have hS : va_S Ad s.heap H locs := by rw [hH, hlocs]; exact hS
  refine mw_HL hH hlocs ?_
  refine lv_iload_n hx hb dX7_hasSet_0 rfl (lv_at hl 1 rfl) ?_
  obtain ⟨h9a, hw⟩ := hw
  refine hz_if_lt (tgt := 16) hx hb dX7_hasSet_1 (by decide) h9a (fun c_1 => ?_) (fun c_1 => ?_)
  · have hw := hw.1 c_1
    exact L16  hw H locs ls hP hD hS (lv_sub hl [] rfl)
  · have hw := hw.2 c_1
    refine lv_iload_n hx hb dX7_hasSet_4 rfl (lv_at hl 1 rfl) ?_
    refine lv_aload_n hx hb dX7_hasSet_5 rfl (lv_at hl 0 rfl) ?_
    obtain ⟨hO_2, hw⟩ := hw
    refine cw_get (ci := 7) (v := .int (hz_i (z y0 0))) hx hb hts hin7 hown hK hP hO_2.1 hO_2.2 rfl 0 (by decide) (hts (.fieldLink RX7 9 "HiddenMoves$Side" "sets" "I") (List.mem_cons_of_mem _ (List.mem_append_left _ (List.mem_of_getElem? (i := 0) rfl)))) (fun _ h9 => h9) rfl dX7_hasSet_6 ?_
    obtain ⟨h9a, hw⟩ := hw
    obtain ⟨h9b, hw⟩ := hw
    refine hz_icmp_ge (tgt := 16) hx hb dX7_hasSet_9 (by decide) h9a h9b (fun c_3 => ?_) (fun c_3 => ?_)
    · have hw := hw.1 c_3
      exact L16  hw H locs ls hP hD hS (lv_sub hl [] rfl)
    · have hw := hw.2 c_3
      refine lv_iconst (v := hz_i 1) hx hb dX7_hasSet_12 (by decide +kernel) ?_
      refine lv_goto (tgt := 17) hx hb dX7_hasSet_13 (by decide) ?_
      exact L17 1 hw H locs ls hP hD hS (lv_sub hl [] rfl)

noncomputable def wp_c11_reply_64 (L : List Nat) (K : Nat → cw_K) (z : Nat → Nat → Int) (r : Nat → Nat → Nat) (A : Nat → Nat → Int) (t0 : Int) (Q : Int → Prop) : Prop := Q t0
noncomputable def wp_c11_reply_24 (L : List Nat) (K : Nat → cw_K) (z : Nat → Nat → Int) (r : Nat → Nat → Nat) (A : Nat → Nat → Int) (Q : Int → Prop) : Prop := Q (-1)
noncomputable def wp_c11_reply (L : List Nat) (K : Nat → cw_K) (z : Nat → Nat → Int) (r : Nat → Nat → Nat) (A : Nat → Nat → Int) (y0 : Nat) (y1 : Int) (y2 : Int) (Q : Int → Prop) : Prop := cw_O L K 11 y0 ∧ wp_c11_isPlaying L K z r A y0 y1 (fun rv_1 => hz_rI rv_1 ∧ ((rv_1 = 0 → wp_c11_reply_24 L K z r A  Q) ∧ (¬ (rv_1 = 0) → cw_G L K 5 (r y0 9) ∧ ((0 : Int) ≤ (2 + y1) - 1 ∧ (2 + y1) - 1 < (cw_n K (r y0 9) : Int)) ∧ cw_O L K 4 (cw_g K (r y0 9) (((2 + y1) - 1).toNat)) ∧ hz_rI (z (cw_g K (r y0 9) (((2 + y1) - 1).toNat)) 2) ∧ ((¬ z (cw_g K (r y0 9) (((2 + y1) - 1).toNat)) 2 = 0 → ∀ x3_7 : Int, x3_7 = y1 - 1 → cw_O L K 2 (r y0 13) ∧ wp_c11_other L K z r A x3_7 (fun rv_9 => cw_G L K 7 (r (r y0 13) 1) ∧ ((0 : Int) ≤ rv_9 ∧ rv_9 < (cw_n K (r (r y0 13) 1) : Int)) ∧ cw_O L K 7 (cw_g K (r (r y0 13) 1) (rv_9.toNat)) ∧ wp_c7_hasSet L K z r A (cw_g K (r (r y0 13) 1) (rv_9.toNat)) y2 (fun rv_11 => hz_rI rv_11 ∧ ((rv_11 = 0 → wp_c11_reply_64 L K z r A (-1)  Q) ∧ (¬ (rv_11 = 0) → cw_G L K 6 (r y0 7) ∧ ((0 : Int) ≤ x3_7 ∧ x3_7 < (cw_n K (r y0 7) : Int)) ∧ cw_O L K 6 (cw_g K (r y0 7) (x3_7.toNat)) ∧ cw_A L K 0 (r (cw_g K (r y0 7) (x3_7.toNat)) 0) ∧ ((0 : Int) ≤ y2 ∧ y2 < (cw_n K (r (cw_g K (r y0 7) (x3_7.toNat)) 0) : Int)) ∧ wp_c11_reply_64 L K z r A (A (r (cw_g K (r y0 7) (x3_7.toNat)) 0) (y2.toNat))  Q))))) ∧ (z (cw_g K (r y0 9) (((2 + y1) - 1).toNat)) 2 = 0 → wp_c11_reply_24 L K z r A  Q)))))
set_option maxHeartbeats 4000000 in
set_option maxRecDepth 100000 in
theorem k_c11_reply (l : Launch) (D : va_G) (sz : Nat) (C : Nat → ClassId) (L : List Nat) (K : Nat → cw_K) (z : Nat → Nat → Int) (r : Nat → Nat → Nat) (A : Nat → Nat → Int) (y0 : Nat) (y1 : Int) (y2 : Int) (Q : Int → Prop) (hw : wp_c11_reply L K z r A y0 y1 y2 Q) : Met l yX11_reply wsX11_reply ({ frames := 2, cells := 0, slots := 0, locals := 41 } : Room) (va_Pc [.ref y0, .int (hz_i y1), .int (hz_i y2)] (hm_P D (cw_w C L K z r A) (cw_t C) sz)) (va_Qi (S := Int × (Nat → Nat → Int) × (Nat → Nat → Nat) × (Nat → Nat → Int)) (fun r u => r = hz_i u.1 ∧ Q u.1) (fun u t => hm_B D (va_A (cw_w C L K z r A) sz) (cw_w C L K z r A) (cw_t C) t) (va_A (cw_w C L K z r A) sz)) 0 0 (va_A (cw_w C L K z r A) sz) := by
  refine Met.ofW (cc := cX11_reply) (maxL := 4) (ret := (some .int)) (by decide) rfl ?_
  intro p e s m args below meth c s₁ B hml hv
  obtain ⟨rfl, hsz, hP, hK, hD0, hE⟩ := hv
  have hx := B.exec
  have hb := B.bytes
  have hr := B.returns
  have hts := atoms_spec (ws := wsX11_reply) B.pre
  have hown : s.vm.findClass RX11 = some m.cls := findClass_of_methodNamed B.named
  have hlocks := B.notSynchronized
  have hin2 : ∀ w ∈ u_ws RX2 TX2 4, w ∈ wsX11_reply := fun w h => List.mem_cons_of_mem _ (List.mem_append_left _ (List.mem_append_left _ (List.mem_append_right _ (h))))
  have hin4 : ∀ w ∈ u_ws RX4 TX4 6, w ∈ wsX11_reply := fun w h => List.mem_cons_of_mem _ (List.mem_append_left _ (List.mem_append_left _ (List.mem_append_left _ (List.mem_append_right _ (h)))))
  have hin6 : ∀ w ∈ u_ws RX6 TX6 5, w ∈ wsX11_reply := fun w h => List.mem_cons_of_mem _ (List.mem_append_left _ (List.mem_append_right _ (h)))
  have hin11 : ∀ w ∈ u_ws RX11 TX11 16, w ∈ wsX11_reply := fun w h => List.mem_cons_of_mem _ (List.mem_append_left _ (List.mem_append_left _ (List.mem_append_left _ (List.mem_append_left _ (List.mem_append_right _ (h))))))
  subst hsz
  have hD := hD0.self (sz := s.heap.size)
  generalize hAe : va_A (cw_w C L K z r A) s.heap.size = Ad at hD ⊢
  have hA : ∀ q : Nat, s.heap.size ≤ q → Ad q := fun q h => by rw [← hAe]; exact Or.inr h
  have hS : va_S Ad s.heap s.heap [] := va_S.rf
  have hl := lv_entry ([.ref y0, .int (hz_i y1), .int (hz_i y2)]) (n := 4) (Nat.le_of_ble_eq_true rfl)
  rw [lg_entry_eq]
  generalize (lg_sl ([.ref y0, .int (hz_i y1), .int (hz_i y2)]) ++ List.replicate (4 - (lg_sl ([.ref y0, .int (hz_i y1), .int (hz_i y2)])).length) Slot.unset).toArray = ls at hl ⊢
  have hl : lv_has ls 4 [(0, .ref y0), (1, .int (hz_i y1)), (2, .int (hz_i y2))] := hl
  refine mw_Q (fun QQ hQQ => ?_)
  have hP0 := hP; have hD0 := hD; have hS0 := hS; have hl0 := hl; have hw0 := hw
  clear hP hD hS hl hw
  have L64 : ∀ (t0 : Int), wp_c11_reply_64 L K z r A t0  Q → ∀ (H : Heap) (locs : List Loc) (ls : Array Slot), va_P D vwCl (cw_w C L K z r A) H → va_D Ad (cw_w C L K z r A) → va_S Ad s.heap H locs → lv_has ls 4 [] → W p l e (headSpec wsX11_reply ({ frames := 2, cells := 0, slots := 0, locals := 41 } : Room)).room s m (List.toArray [.ref y0, .int (hz_i y1), .int (hz_i y2)]) below meth c H locs 0 0 QQ (F0 m 64 ls [.int (hz_i t0)]) := by
    intro t0 hw H locs ls hP hD hS hl
    subst hQQ
    subst hAe
    exact W.iret (v := hz_i t0) hx hb hr (fun t ht hW => ⟨⟨hz_i t0, (t0, z, r, A), rfl, ⟨rfl, hw⟩, by rw [ht]; exact hP, va_K.moved hW.alike hK, hD⟩, hS.F ht⟩) hS.2.2 dX11_reply_64
  have L24 : wp_c11_reply_24 L K z r A  Q → ∀ (H : Heap) (locs : List Loc) (ls : Array Slot), va_P D vwCl (cw_w C L K z r A) H → va_D Ad (cw_w C L K z r A) → va_S Ad s.heap H locs → lv_has ls 4 [] → W p l e (headSpec wsX11_reply ({ frames := 2, cells := 0, slots := 0, locals := 41 } : Room)).room s m (List.toArray [.ref y0, .int (hz_i y1), .int (hz_i y2)]) below meth c H locs 0 0 QQ (F0 m 24 ls []) := by
    intro  hw H locs ls hP hD hS hl
    refine lv_iconst (v := hz_i (-1)) hx hb dX11_reply_24 (by decide +kernel) ?_
    subst hQQ
    subst hAe
    exact W.iret (v := hz_i (-1)) hx hb hr (fun t ht hW => ⟨⟨hz_i (-1), ((-1), z, r, A), rfl, ⟨rfl, hw⟩, by rw [ht]; exact hP, va_K.moved hW.alike hK, hD⟩, hS.F ht⟩) hS.2.2 dX11_reply_25
  have hP := hP0; have hD := hD0; have hS := hS0; have hl := hl0; have hw := hw0
  obtain ⟨H, hH⟩ : ∃ H : Heap, H = s.heap := ⟨_, rfl⟩
  obtain ⟨locs, hlocs⟩ : ∃ L : List Loc, L = [] := ⟨_, rfl⟩
  rw [← hH] at hP
  have hS : va_S Ad s.heap H locs := by rw [hH, hlocs]; exact hS
  refine mw_HL hH hlocs ?_
  refine lv_aload_n hx hb dX11_reply_0 rfl (lv_at hl 0 rfl) ?_
  refine lv_iload_n hx hb dX11_reply_1 rfl (lv_at hl 1 rfl) ?_
  obtain ⟨hO_2, hw⟩ := hw
  have hFc := cw_free hD hS hA
  obtain ⟨q9, hq9⟩ := cw_at (C := C) (z := z) (r := r) (A := A) hO_2.1 hO_2.2
  refine va_calli (va_runV (As := [.int (hz_i y1)]) (rest := []) ⟨hx, hb, hml, hown, hts⟩ (k_c11_isPlaying l D _ C L K z r A y0 y1 _ hw) (cwV 1 hts gX11_reply_X11_isPlaying rfl rfl rfl (by decide +kernel) ⟨Nat.le_of_ble_eq_true rfl, Nat.le_of_ble_eq_true rfl⟩) ⟨hm_blind, va_recv hK hP (ci := 11) (q0 := q9) rfl hq9, hm_pre hP hK hD hE⟩ rfl rfl hl.1 rfl (lv_room (Nat.le_of_ble_eq_true rfl)) dX11_reply_2 ⟨Nat.le_of_ble_eq_true rfl, Nat.le_of_ble_eq_true rfl⟩) hS (fun q _ h => hFc q h) hFc (fun rv u t H1 locs ht hvm hw hB hz1 hk1 hS => ?_)
  obtain ⟨rv_1, _, _, _⟩ := u
  obtain ⟨hP, hK1, hD1⟩ := hB
  rw [ht] at hP
  obtain ⟨hrv, hw⟩ := hw
  subst hrv
  have hD := hD1.weaken (fun k q _ h => hFc q.1 h)
  have hP : va_P D vwCl (cw_w C L K z r A) H1 := hP
  have hD : va_D Ad (cw_w C L K z r A) := hD
  generalize H1 = H at hP hS ⊢
  refine W.eq (g2 := F0 m 5 ls [.int (hz_i rv_1)]) rfl ?_
  obtain ⟨h9a, hw⟩ := hw
  refine hz_if_eq (tgt := 24) hx hb dX11_reply_5 (by decide) h9a (fun c_3 => ?_) (fun c_3 => ?_)
  · have hw := hw.1 c_3
    exact L24  hw H locs ls hP hD hS (lv_sub hl [] rfl)
  · have hw := hw.2 c_3
    refine lv_aload_n hx hb dX11_reply_8 rfl (lv_at hl 0 rfl) ?_
    refine cw_get (ci := 11) (v := .ref (r y0 9)) hx hb hts hin11 hown hK hP hO_2.1 hO_2.2 rfl 9 (by decide) (hts (.fieldLink RX11 59 "HiddenMoves" "results" "[LHiddenMoves$Ratio;") (List.mem_cons_of_mem _ (List.mem_append_left _ (List.mem_append_left _ (List.mem_append_left _ (List.mem_append_left _ (List.mem_append_left _ (List.mem_of_getElem? (i := 0) rfl)))))))) (fun _ h9 => h9) rfl dX11_reply_9 ?_
    refine lv_iconst (v := hz_i 2) hx hb dX11_reply_12 (by decide +kernel) ?_
    refine lv_iload_n hx hb dX11_reply_13 rfl (lv_at hl 1 rfl) ?_
    refine hz_iadd hx hb dX11_reply_14 ?_
    refine lv_iconst (v := hz_i 1) hx hb dX11_reply_15 (by decide +kernel) ?_
    refine hz_isub hx hb dX11_reply_16 ?_
    obtain ⟨hO_4, hw⟩ := hw
    obtain ⟨h9i, hw⟩ := hw
    refine cw_ald hx hb hK hP hO_4.1 hO_4.2.2 rfl h9i hO_4.2.1 dX11_reply_17 ?_
    obtain ⟨hO_5, hw⟩ := hw
    refine cw_get (ci := 4) (v := .int (hz_i (z (cw_g K (r y0 9) (((2 + y1) - 1).toNat)) 2))) hx hb hts hin4 hown hK hP hO_5.1 hO_5.2 rfl 2 (by decide) (hts (.fieldLink RX11 235 "HiddenMoves$Ratio" "known" "Z") (List.mem_cons_of_mem _ (List.mem_append_left _ (List.mem_append_left _ (List.mem_append_left _ (List.mem_append_left _ (List.mem_append_left _ (List.mem_of_getElem? (i := 1) rfl)))))))) (fun _ h9 => h9) rfl dX11_reply_18 ?_
    obtain ⟨h9a, hw⟩ := hw
    refine hz_if_ne (tgt := 26) hx hb dX11_reply_21 (by decide) h9a (fun c_6 => ?_) (fun c_6 => ?_)
    · have hw := hw.1 c_6
      refine lv_iload_n hx hb dX11_reply_26 rfl (lv_at hl 1 rfl) ?_
      refine lv_iconst (v := hz_i 1) hx hb dX11_reply_27 (by decide +kernel) ?_
      refine hz_isub hx hb dX11_reply_28 ?_
      refine hz_topi (fun x3_7 hx3_7 => ?_)
      have hw := hw x3_7 hx3_7
      refine lv_istore_n (lv' := [(3, .int (hz_i x3_7)), (0, .ref y0), (1, .int (hz_i y1)), (2, .int (hz_i y2))]) hx hb dX11_reply_29 rfl hl (by decide) rfl (fun ls hl => ?_)
      refine lv_aload_n hx hb dX11_reply_30 rfl (lv_at hl 1 rfl) ?_
      refine cw_get (ci := 11) (v := .ref (r y0 13)) hx hb hts hin11 hown hK hP hO_2.1 hO_2.2 rfl 13 (by decide) (hts (.fieldLink RX11 83 "HiddenMoves" "game" "LHiddenMoves$Game;") (List.mem_cons_of_mem _ (List.mem_append_left _ (List.mem_append_left _ (List.mem_append_left _ (List.mem_append_left _ (List.mem_append_left _ (List.mem_of_getElem? (i := 2) rfl)))))))) (fun _ h9 => h9) rfl dX11_reply_31 ?_
      obtain ⟨hO_8, hw⟩ := hw
      refine cw_get (ci := 2) (v := .ref (r (r y0 13) 1)) hx hb hts hin2 hown hK hP hO_8.1 hO_8.2 rfl 1 (by decide) (hts (.fieldLink RX11 238 "HiddenMoves$Game" "sides" "[LHiddenMoves$Side;") (List.mem_cons_of_mem _ (List.mem_append_left _ (List.mem_append_left _ (List.mem_append_left _ (List.mem_append_left _ (List.mem_append_left _ (List.mem_of_getElem? (i := 3) rfl)))))))) (fun _ h9 => h9) rfl dX11_reply_34 ?_
      refine lv_iload_n hx hb dX11_reply_37 rfl (lv_at hl 0 rfl) ?_
      have hFc := cw_free hD hS hA
      refine va_calli (va_runS (As := [.int (hz_i x3_7)]) (rest := [.ref (r (r y0 13) 1)]) ⟨hx, hb, hml, hown, hts⟩ (k_c11_other l D _ C L K z r A x3_7 _ hw) (va_cwS 1 hts gX11_reply_X11_other rfl rfl rfl (by decide +kernel) ⟨Nat.le_of_ble_eq_true rfl, Nat.le_of_ble_eq_true rfl⟩) ⟨hm_blind, hm_pre hP hK hD hE⟩ rfl rfl hl.1 rfl (lv_room (Nat.le_of_ble_eq_true rfl)) dX11_reply_38 ⟨Nat.le_of_ble_eq_true rfl, Nat.le_of_ble_eq_true rfl⟩) hS (fun q _ h => hFc q h) hFc (fun rv u t H1 locs ht hvm hw hB hz1 hk1 hS => ?_)
      obtain ⟨rv_9, _, _, _⟩ := u
      obtain ⟨hP, hK1, hD1⟩ := hB
      rw [ht] at hP
      obtain ⟨hrv, hw⟩ := hw
      subst hrv
      have hD := hD1.weaken (fun k q _ h => hFc q.1 h)
      have hP : va_P D vwCl (cw_w C L K z r A) H1 := hP
      have hD : va_D Ad (cw_w C L K z r A) := hD
      generalize H1 = H at hP hS ⊢
      refine W.eq (g2 := F0 m 41 ls [.int (hz_i rv_9), .ref (r (r y0 13) 1)]) rfl ?_
      obtain ⟨hO_10, hw⟩ := hw
      obtain ⟨h9i, hw⟩ := hw
      refine cw_ald hx hb hK hP hO_10.1 hO_10.2.2 rfl h9i hO_10.2.1 dX11_reply_41 ?_
      refine lv_iload_n hx hb dX11_reply_42 rfl (lv_at hl 3 rfl) ?_
      obtain ⟨hO_12, hw⟩ := hw
      have hFc := cw_free hD hS hA
      obtain ⟨q9, hq9⟩ := cw_at (C := C) (z := z) (r := r) (A := A) hO_12.1 hO_12.2
      refine va_calli (va_runV (As := [.int (hz_i y2)]) (rest := []) ⟨hx, hb, hml, hown, hts⟩ (k_c7_hasSet l D _ C L K z r A (cw_g K (r (r y0 13) 1) (rv_9.toNat)) y2 _ hw) (cwV 1 hts gX11_reply_X7_hasSet rfl rfl rfl (by decide +kernel) ⟨Nat.le_of_ble_eq_true rfl, Nat.le_of_ble_eq_true rfl⟩) ⟨hm_blind, va_recv hK hP (ci := 7) (q0 := q9) rfl hq9, hm_pre hP hK hD hE⟩ rfl rfl hl.1 rfl (lv_room (Nat.le_of_ble_eq_true rfl)) dX11_reply_43 ⟨Nat.le_of_ble_eq_true rfl, Nat.le_of_ble_eq_true rfl⟩) hS (fun q _ h => hFc q h) hFc (fun rv u t H1 locs ht hvm hw hB hz1 hk1 hS => ?_)
      obtain ⟨rv_11, _, _, _⟩ := u
      obtain ⟨hP, hK1, hD1⟩ := hB
      rw [ht] at hP
      obtain ⟨hrv, hw⟩ := hw
      subst hrv
      have hD := hD1.weaken (fun k q _ h => hFc q.1 h)
      have hP : va_P D vwCl (cw_w C L K z r A) H1 := hP
      have hD : va_D Ad (cw_w C L K z r A) := hD
      generalize H1 = H at hP hS ⊢
      refine W.eq (g2 := F0 m 46 ls [.int (hz_i rv_11)]) rfl ?_
      obtain ⟨h9a, hw⟩ := hw
      refine hz_if_eq (tgt := 63) hx hb dX11_reply_46 (by decide) h9a (fun c_13 => ?_) (fun c_13 => ?_)
      · have hw := hw.1 c_13
        refine lv_iconst (v := hz_i (-1)) hx hb dX11_reply_63 (by decide +kernel) ?_
        exact L64 (-1) hw H locs ls hP hD hS (lv_sub hl [] rfl)
      · have hw := hw.2 c_13
        refine lv_aload_n hx hb dX11_reply_49 rfl (lv_at hl 1 rfl) ?_
        refine cw_get (ci := 11) (v := .ref (r y0 7)) hx hb hts hin11 hown hK hP hO_2.1 hO_2.2 rfl 7 (by decide) (hts (.fieldLink RX11 48 "HiddenMoves" "replies" "[LHiddenMoves$Reply;") (List.mem_cons_of_mem _ (List.mem_append_left _ (List.mem_append_left _ (List.mem_append_left _ (List.mem_append_left _ (List.mem_append_left _ (List.mem_of_getElem? (i := 4) rfl)))))))) (fun _ h9 => h9) rfl dX11_reply_50 ?_
        refine lv_iload_n hx hb dX11_reply_53 rfl (lv_at hl 0 rfl) ?_
        obtain ⟨hO_14, hw⟩ := hw
        obtain ⟨h9i, hw⟩ := hw
        refine cw_ald hx hb hK hP hO_14.1 hO_14.2.2 rfl h9i hO_14.2.1 dX11_reply_54 ?_
        obtain ⟨hO_15, hw⟩ := hw
        refine cw_get (ci := 6) (v := .ref (r (cw_g K (r y0 7) (x3_7.toNat)) 0)) hx hb hts hin6 hown hK hP hO_15.1 hO_15.2 rfl 0 (by decide) (hts (.fieldLink RX11 242 "HiddenMoves$Reply" "moves" "[I") (List.mem_cons_of_mem _ (List.mem_append_left _ (List.mem_append_left _ (List.mem_append_left _ (List.mem_append_left _ (List.mem_append_left _ (List.mem_of_getElem? (i := 5) rfl)))))))) (fun _ h9 => h9) rfl dX11_reply_55 ?_
        refine lv_iload_n hx hb dX11_reply_58 rfl (lv_at hl 3 rfl) ?_
        obtain ⟨hO_16, hw⟩ := hw
        obtain ⟨h9i, hw⟩ := hw
        refine cw_ild hx hb hK hP hO_16.1 hO_16.2.2 h9i hO_16.2.1 dX11_reply_59 ?_
        refine lv_goto (tgt := 64) hx hb dX11_reply_60 (by decide) ?_
        exact L64 (A (r (cw_g K (r y0 7) (x3_7.toNat)) 0) (y2.toNat)) hw H locs ls hP hD hS (lv_sub hl [] rfl)
    · have hw := hw.2 c_6
      exact L24  hw H locs ls hP hD hS (lv_sub hl [] rfl)

noncomputable def wp_c11_set_20 (L : List Nat) (K : Nat → cw_K) (z : Nat → Nat → Int) (r : Nat → Nat → Nat) (A : Nat → Nat → Int) (Q : Int → Prop) : Prop := Q (-1)
noncomputable def wp_c11_set (L : List Nat) (K : Nat → cw_K) (z : Nat → Nat → Int) (r : Nat → Nat → Nat) (A : Nat → Nat → Int) (y0 : Nat) (y1 : Int) (y2 : Int) (y3 : Int) (Q : Int → Prop) : Prop := cw_O L K 11 y0 ∧ wp_c11_isPlaying L K z r A y0 y1 (fun rv_1 => hz_rI rv_1 ∧ ((rv_1 = 0 → wp_c11_set_20 L K z r A  Q) ∧ (¬ (rv_1 = 0) → wp_c11_sideOf L K z r A y0 y1 (fun rv_4 => cw_O L K 7 rv_4 ∧ wp_c7_hasSet L K z r A rv_4 y2 (fun rv_5 => hz_rI rv_5 ∧ ((¬ rv_5 = 0 → wp_c11_sideOf L K z r A y0 y1 (fun rv_8 => hz_rI y3 ∧ ((y3 = 0 → cw_O L K 7 rv_8 ∧ cw_A L K 0 (r rv_8 2) ∧ ((0 : Int) ≤ y2 ∧ y2 < (cw_n K (r rv_8 2) : Int)) ∧ Q (A (r rv_8 2) (y2.toNat))) ∧ (¬ y3 = 0 → ((y3 = 1 → cw_O L K 7 rv_8 ∧ cw_A L K 0 (r rv_8 1) ∧ ((0 : Int) ≤ y2 ∧ y2 < (cw_n K (r rv_8 1) : Int)) ∧ Q (A (r rv_8 1) (y2.toNat))) ∧ (¬ y3 = 1 → ((y3 = 2 → cw_O L K 7 rv_8 ∧ cw_A L K 0 (r rv_8 3) ∧ ((0 : Int) ≤ y2 ∧ y2 < (cw_n K (r rv_8 3) : Int)) ∧ Q (A (r rv_8 3) (y2.toNat))) ∧ (¬ y3 = 2 → Q (-1))))))))) ∧ (rv_5 = 0 → wp_c11_set_20 L K z r A  Q)))))))
theorem tb_c11_set_30 {a : Int} (h : hz_rI a) (h0 : ¬ a = 0) (h1 : ¬ a = 1) (h2 : ¬ a = 2) : (hz_i a).toInt < 0 ∨ 2 < (hz_i a).toInt := by
  rw [hz_i_toInt h]
  omega
set_option maxHeartbeats 4000000 in
set_option maxRecDepth 100000 in
theorem k_c11_set (l : Launch) (D : va_G) (sz : Nat) (C : Nat → ClassId) (L : List Nat) (K : Nat → cw_K) (z : Nat → Nat → Int) (r : Nat → Nat → Nat) (A : Nat → Nat → Int) (y0 : Nat) (y1 : Int) (y2 : Int) (y3 : Int) (Q : Int → Prop) (hw : wp_c11_set L K z r A y0 y1 y2 y3 Q) : Met l yX11_set wsX11_set ({ frames := 2, cells := 0, slots := 0, locals := 41 } : Room) (va_Pc [.ref y0, .int (hz_i y1), .int (hz_i y2), .int (hz_i y3)] (hm_P D (cw_w C L K z r A) (cw_t C) sz)) (va_Qi (S := Int × (Nat → Nat → Int) × (Nat → Nat → Nat) × (Nat → Nat → Int)) (fun r u => r = hz_i u.1 ∧ Q u.1) (fun u t => hm_B D (va_A (cw_w C L K z r A) sz) (cw_w C L K z r A) (cw_t C) t) (va_A (cw_w C L K z r A) sz)) 0 0 (va_A (cw_w C L K z r A) sz) := by
  refine Met.ofW (cc := cX11_set) (maxL := 5) (ret := (some .int)) (by decide) rfl ?_
  intro p e s m args below meth c s₁ B hml hv
  obtain ⟨rfl, hsz, hP, hK, hD0, hE⟩ := hv
  have hx := B.exec
  have hb := B.bytes
  have hr := B.returns
  have hts := atoms_spec (ws := wsX11_set) B.pre
  have hown : s.vm.findClass RX11 = some m.cls := findClass_of_methodNamed B.named
  have hlocks := B.notSynchronized
  have hin7 : ∀ w ∈ u_ws RX7 TX7 8, w ∈ wsX11_set := fun w h => List.mem_cons_of_mem _ (List.mem_append_left _ (List.mem_append_left _ (List.mem_append_right _ (h))))
  subst hsz
  have hD := hD0.self (sz := s.heap.size)
  generalize hAe : va_A (cw_w C L K z r A) s.heap.size = Ad at hD ⊢
  have hA : ∀ q : Nat, s.heap.size ≤ q → Ad q := fun q h => by rw [← hAe]; exact Or.inr h
  have hS : va_S Ad s.heap s.heap [] := va_S.rf
  have hl := lv_entry ([.ref y0, .int (hz_i y1), .int (hz_i y2), .int (hz_i y3)]) (n := 5) (Nat.le_of_ble_eq_true rfl)
  rw [lg_entry_eq]
  generalize (lg_sl ([.ref y0, .int (hz_i y1), .int (hz_i y2), .int (hz_i y3)]) ++ List.replicate (5 - (lg_sl ([.ref y0, .int (hz_i y1), .int (hz_i y2), .int (hz_i y3)])).length) Slot.unset).toArray = ls at hl ⊢
  have hl : lv_has ls 5 [(0, .ref y0), (1, .int (hz_i y1)), (2, .int (hz_i y2)), (3, .int (hz_i y3))] := hl
  refine mw_Q (fun QQ hQQ => ?_)
  have hP0 := hP; have hD0 := hD; have hS0 := hS; have hl0 := hl; have hw0 := hw
  clear hP hD hS hl hw
  have L20 : wp_c11_set_20 L K z r A  Q → ∀ (H : Heap) (locs : List Loc) (ls : Array Slot), va_P D vwCl (cw_w C L K z r A) H → va_D Ad (cw_w C L K z r A) → va_S Ad s.heap H locs → lv_has ls 5 [] → W p l e (headSpec wsX11_set ({ frames := 2, cells := 0, slots := 0, locals := 41 } : Room)).room s m (List.toArray [.ref y0, .int (hz_i y1), .int (hz_i y2), .int (hz_i y3)]) below meth c H locs 0 0 QQ (F0 m 20 ls []) := by
    intro  hw H locs ls hP hD hS hl
    refine lv_iconst (v := hz_i (-1)) hx hb dX11_set_20 (by decide +kernel) ?_
    subst hQQ
    subst hAe
    exact W.iret (v := hz_i (-1)) hx hb hr (fun t ht hW => ⟨⟨hz_i (-1), ((-1), z, r, A), rfl, ⟨rfl, hw⟩, by rw [ht]; exact hP, va_K.moved hW.alike hK, hD⟩, hS.F ht⟩) hS.2.2 dX11_set_21
  have hP := hP0; have hD := hD0; have hS := hS0; have hl := hl0; have hw := hw0
  obtain ⟨H, hH⟩ : ∃ H : Heap, H = s.heap := ⟨_, rfl⟩
  obtain ⟨locs, hlocs⟩ : ∃ L : List Loc, L = [] := ⟨_, rfl⟩
  rw [← hH] at hP
  have hS : va_S Ad s.heap H locs := by rw [hH, hlocs]; exact hS
  refine mw_HL hH hlocs ?_
  refine lv_aload_n hx hb dX11_set_0 rfl (lv_at hl 0 rfl) ?_
  refine lv_iload_n hx hb dX11_set_1 rfl (lv_at hl 1 rfl) ?_
  obtain ⟨hO_2, hw⟩ := hw
  have hFc := cw_free hD hS hA
  obtain ⟨q9, hq9⟩ := cw_at (C := C) (z := z) (r := r) (A := A) hO_2.1 hO_2.2
  refine va_calli (va_runV (As := [.int (hz_i y1)]) (rest := []) ⟨hx, hb, hml, hown, hts⟩ (k_c11_isPlaying l D _ C L K z r A y0 y1 _ hw) (cwV 1 hts gX11_set_X11_isPlaying rfl rfl rfl (by decide +kernel) ⟨Nat.le_of_ble_eq_true rfl, Nat.le_of_ble_eq_true rfl⟩) ⟨hm_blind, va_recv hK hP (ci := 11) (q0 := q9) rfl hq9, hm_pre hP hK hD hE⟩ rfl rfl hl.1 rfl (lv_room (Nat.le_of_ble_eq_true rfl)) dX11_set_2 ⟨Nat.le_of_ble_eq_true rfl, Nat.le_of_ble_eq_true rfl⟩) hS (fun q _ h => hFc q h) hFc (fun rv u t H1 locs ht hvm hw hB hz1 hk1 hS => ?_)
  obtain ⟨rv_1, _, _, _⟩ := u
  obtain ⟨hP, hK1, hD1⟩ := hB
  rw [ht] at hP
  obtain ⟨hrv, hw⟩ := hw
  subst hrv
  have hD := hD1.weaken (fun k q _ h => hFc q.1 h)
  have hP : va_P D vwCl (cw_w C L K z r A) H1 := hP
  have hD : va_D Ad (cw_w C L K z r A) := hD
  generalize H1 = H at hP hS ⊢
  refine W.eq (g2 := F0 m 5 ls [.int (hz_i rv_1)]) rfl ?_
  obtain ⟨h9a, hw⟩ := hw
  refine hz_if_eq (tgt := 20) hx hb dX11_set_5 (by decide) h9a (fun c_3 => ?_) (fun c_3 => ?_)
  · have hw := hw.1 c_3
    exact L20  hw H locs ls hP hD hS (lv_sub hl [] rfl)
  · have hw := hw.2 c_3
    refine lv_aload_n hx hb dX11_set_8 rfl (lv_at hl 0 rfl) ?_
    refine lv_iload_n hx hb dX11_set_9 rfl (lv_at hl 1 rfl) ?_
    have hFc := cw_free hD hS hA
    obtain ⟨q9, hq9⟩ := cw_at (C := C) (z := z) (r := r) (A := A) hO_2.1 hO_2.2
    refine va_callr (va_runV (As := [.int (hz_i y1)]) (rest := []) ⟨hx, hb, hml, hown, hts⟩ (k_c11_sideOf l D _ C L K z r A y0 y1 _ hw) (cwV 1 hts gX11_set_X11_sideOf rfl rfl rfl (by decide +kernel) ⟨Nat.le_of_ble_eq_true rfl, Nat.le_of_ble_eq_true rfl⟩) ⟨hm_blind, va_recv hK hP (ci := 11) (q0 := q9) rfl hq9, hm_pre hP hK hD hE⟩ rfl rfl hl.1 rfl (lv_room (Nat.le_of_ble_eq_true rfl)) dX11_set_10 ⟨Nat.le_of_ble_eq_true rfl, Nat.le_of_ble_eq_true rfl⟩) hS (fun q _ h => hFc q h) hFc (fun u ra t H1 locs ht hvm hw hB hz1 hk1 hS => ?_)
    obtain ⟨rv_4, _, _, _⟩ := u
    obtain ⟨hra, hP, hK1, hD1⟩ := hB
    have hra := hra.symm
    subst hra
    rw [ht] at hP
    have hD := hD1.weaken (fun k q _ h => hFc q.1 h)
    have hP : va_P D vwCl (cw_w C L K z r A) H1 := hP
    have hD : va_D Ad (cw_w C L K z r A) := hD
    generalize H1 = H at hP hS ⊢
    refine W.eq (g2 := F0 m 13 ls [.ref rv_4]) rfl ?_
    refine lv_iload_n hx hb dX11_set_13 rfl (lv_at hl 2 rfl) ?_
    obtain ⟨hO_6, hw⟩ := hw
    have hFc := cw_free hD hS hA
    obtain ⟨q9, hq9⟩ := cw_at (C := C) (z := z) (r := r) (A := A) hO_6.1 hO_6.2
    refine va_calli (va_runV (As := [.int (hz_i y2)]) (rest := []) ⟨hx, hb, hml, hown, hts⟩ (k_c7_hasSet l D _ C L K z r A rv_4 y2 _ hw) (cwV 1 hts gX11_set_X7_hasSet rfl rfl rfl (by decide +kernel) ⟨Nat.le_of_ble_eq_true rfl, Nat.le_of_ble_eq_true rfl⟩) ⟨hm_blind, va_recv hK hP (ci := 7) (q0 := q9) rfl hq9, hm_pre hP hK hD hE⟩ rfl rfl hl.1 rfl (lv_room (Nat.le_of_ble_eq_true rfl)) dX11_set_14 ⟨Nat.le_of_ble_eq_true rfl, Nat.le_of_ble_eq_true rfl⟩) hS (fun q _ h => hFc q h) hFc (fun rv u t H1 locs ht hvm hw hB hz1 hk1 hS => ?_)
    obtain ⟨rv_5, _, _, _⟩ := u
    obtain ⟨hP, hK1, hD1⟩ := hB
    rw [ht] at hP
    obtain ⟨hrv, hw⟩ := hw
    subst hrv
    have hD := hD1.weaken (fun k q _ h => hFc q.1 h)
    have hP : va_P D vwCl (cw_w C L K z r A) H1 := hP
    have hD : va_D Ad (cw_w C L K z r A) := hD
    generalize H1 = H at hP hS ⊢
    refine W.eq (g2 := F0 m 17 ls [.int (hz_i rv_5)]) rfl ?_
    obtain ⟨h9a, hw⟩ := hw
    refine hz_if_ne (tgt := 22) hx hb dX11_set_17 (by decide) h9a (fun c_7 => ?_) (fun c_7 => ?_)
    · have hw := hw.1 c_7
      refine lv_aload_n hx hb dX11_set_22 rfl (lv_at hl 0 rfl) ?_
      refine lv_iload_n hx hb dX11_set_23 rfl (lv_at hl 1 rfl) ?_
      have hFc := cw_free hD hS hA
      obtain ⟨q9, hq9⟩ := cw_at (C := C) (z := z) (r := r) (A := A) hO_2.1 hO_2.2
      refine va_callr (va_runV (As := [.int (hz_i y1)]) (rest := []) ⟨hx, hb, hml, hown, hts⟩ (k_c11_sideOf l D _ C L K z r A y0 y1 _ hw) (cwV 1 hts gX11_set_X11_sideOf rfl rfl rfl (by decide +kernel) ⟨Nat.le_of_ble_eq_true rfl, Nat.le_of_ble_eq_true rfl⟩) ⟨hm_blind, va_recv hK hP (ci := 11) (q0 := q9) rfl hq9, hm_pre hP hK hD hE⟩ rfl rfl hl.1 rfl (lv_room (Nat.le_of_ble_eq_true rfl)) dX11_set_24 ⟨Nat.le_of_ble_eq_true rfl, Nat.le_of_ble_eq_true rfl⟩) hS (fun q _ h => hFc q h) hFc (fun u ra t H1 locs ht hvm hw hB hz1 hk1 hS => ?_)
      obtain ⟨rv_8, _, _, _⟩ := u
      obtain ⟨hra, hP, hK1, hD1⟩ := hB
      have hra := hra.symm
      subst hra
      rw [ht] at hP
      have hD := hD1.weaken (fun k q _ h => hFc q.1 h)
      have hP : va_P D vwCl (cw_w C L K z r A) H1 := hP
      have hD : va_D Ad (cw_w C L K z r A) := hD
      generalize H1 = H at hP hS ⊢
      refine W.eq (g2 := F0 m 27 ls [.ref rv_8]) rfl ?_
      refine lv_astore (lv' := [(4, .ref rv_8), (0, .ref y0), (1, .int (hz_i y1)), (2, .int (hz_i y2)), (3, .int (hz_i y3))]) hx hb dX11_set_27 hl (by decide) rfl (fun ls hl => ?_)
      refine lv_iload_n hx hb dX11_set_29 rfl (lv_at hl 4 rfl) ?_
      obtain ⟨h9a, hw⟩ := hw
      by_cases h9c : y3 = 0
      · have hw := hw.1 h9c
        refine lv_tableIn (tgt := 56) (off := 26) hx hb dX11_set_30 (cw_tb1 h9a h9c (by decide)) (cw_tb2 h9a h9c (by decide)) (by rw [hz_i_toInt h9a, h9c]; decide +kernel) (by decide) ?_
        refine lv_aload hx hb dX11_set_56 (lv_at hl 0 rfl) ?_
        obtain ⟨hO_9, hw⟩ := hw
        refine cw_get (ci := 7) (v := .ref (r rv_8 2)) hx hb hts hin7 hown hK hP hO_9.1 hO_9.2 rfl 2 (by decide) (hts (.fieldLink RX11 141 "HiddenMoves$Side" "moves" "[I") (List.mem_cons_of_mem _ (List.mem_append_left _ (List.mem_append_left _ (List.mem_append_left _ (List.mem_of_getElem? (i := 0) rfl)))))) (fun _ h9 => h9) rfl dX11_set_58 ?_
        refine lv_iload_n hx hb dX11_set_61 rfl (lv_at hl 3 rfl) ?_
        obtain ⟨hO_10, hw⟩ := hw
        obtain ⟨h9i, hw⟩ := hw
        refine cw_ild hx hb hK hP hO_10.1 hO_10.2.2 h9i hO_10.2.1 dX11_set_62 ?_
        subst hQQ
        subst hAe
        exact W.iret (v := hz_i (A (r rv_8 2) (y2.toNat))) hx hb hr (fun t ht hW => ⟨⟨hz_i (A (r rv_8 2) (y2.toNat)), (A (r rv_8 2) (y2.toNat), z, r, A), rfl, ⟨rfl, hw⟩, by rw [ht]; exact hP, va_K.moved hW.alike hK, hD⟩, hS.F ht⟩) hS.2.2 dX11_set_63
      have hw := hw.2 h9c
      have h9c_11 := h9c
      by_cases h9c : y3 = 1
      · have hw := hw.1 h9c
        refine lv_tableIn (tgt := 64) (off := 34) hx hb dX11_set_30 (cw_tb1 h9a h9c (by decide)) (cw_tb2 h9a h9c (by decide)) (by rw [hz_i_toInt h9a, h9c]; decide +kernel) (by decide) ?_
        refine lv_aload hx hb dX11_set_64 (lv_at hl 0 rfl) ?_
        obtain ⟨hO_12, hw⟩ := hw
        refine cw_get (ci := 7) (v := .ref (r rv_8 1)) hx hb hts hin7 hown hK hP hO_12.1 hO_12.2 rfl 1 (by decide) (hts (.fieldLink RX11 144 "HiddenMoves$Side" "numbers" "[I") (List.mem_cons_of_mem _ (List.mem_append_left _ (List.mem_append_left _ (List.mem_append_left _ (List.mem_of_getElem? (i := 1) rfl)))))) (fun _ h9 => h9) rfl dX11_set_66 ?_
        refine lv_iload_n hx hb dX11_set_69 rfl (lv_at hl 3 rfl) ?_
        obtain ⟨hO_13, hw⟩ := hw
        obtain ⟨h9i, hw⟩ := hw
        refine cw_ild hx hb hK hP hO_13.1 hO_13.2.2 h9i hO_13.2.1 dX11_set_70 ?_
        subst hQQ
        subst hAe
        exact W.iret (v := hz_i (A (r rv_8 1) (y2.toNat))) hx hb hr (fun t ht hW => ⟨⟨hz_i (A (r rv_8 1) (y2.toNat)), (A (r rv_8 1) (y2.toNat), z, r, A), rfl, ⟨rfl, hw⟩, by rw [ht]; exact hP, va_K.moved hW.alike hK, hD⟩, hS.F ht⟩) hS.2.2 dX11_set_71
      have hw := hw.2 h9c
      have h9c_14 := h9c
      by_cases h9c : y3 = 2
      · have hw := hw.1 h9c
        refine lv_tableIn (tgt := 72) (off := 42) hx hb dX11_set_30 (cw_tb1 h9a h9c (by decide)) (cw_tb2 h9a h9c (by decide)) (by rw [hz_i_toInt h9a, h9c]; decide +kernel) (by decide) ?_
        refine lv_aload hx hb dX11_set_72 (lv_at hl 0 rfl) ?_
        obtain ⟨hO_15, hw⟩ := hw
        refine cw_get (ci := 7) (v := .ref (r rv_8 3)) hx hb hts hin7 hown hK hP hO_15.1 hO_15.2 rfl 3 (by decide) (hts (.fieldLink RX11 147 "HiddenMoves$Side" "ownMoves" "[I") (List.mem_cons_of_mem _ (List.mem_append_left _ (List.mem_append_left _ (List.mem_append_left _ (List.mem_of_getElem? (i := 2) rfl)))))) (fun _ h9 => h9) rfl dX11_set_74 ?_
        refine lv_iload_n hx hb dX11_set_77 rfl (lv_at hl 3 rfl) ?_
        obtain ⟨hO_16, hw⟩ := hw
        obtain ⟨h9i, hw⟩ := hw
        refine cw_ild hx hb hK hP hO_16.1 hO_16.2.2 h9i hO_16.2.1 dX11_set_78 ?_
        subst hQQ
        subst hAe
        exact W.iret (v := hz_i (A (r rv_8 3) (y2.toNat))) hx hb hr (fun t ht hW => ⟨⟨hz_i (A (r rv_8 3) (y2.toNat)), (A (r rv_8 3) (y2.toNat), z, r, A), rfl, ⟨rfl, hw⟩, by rw [ht]; exact hP, va_K.moved hW.alike hK, hD⟩, hS.F ht⟩) hS.2.2 dX11_set_79
      have hw := hw.2 h9c
      have h9c_17 := h9c
      refine lv_tableOut (tgt := 80) hx hb dX11_set_30 (tb_c11_set_30 h9a h9c_11 h9c_14 h9c_17) (by decide) ?_
      refine lv_iconst (v := hz_i (-1)) hx hb dX11_set_80 (by decide +kernel) ?_
      subst hQQ
      subst hAe
      exact W.iret (v := hz_i (-1)) hx hb hr (fun t ht hW => ⟨⟨hz_i (-1), ((-1), z, r, A), rfl, ⟨rfl, hw⟩, by rw [ht]; exact hP, va_K.moved hW.alike hK, hD⟩, hS.F ht⟩) hS.2.2 dX11_set_81
    · have hw := hw.2 c_7
      exact L20  hw H locs ls hP hD hS (lv_sub hl [] rfl)

noncomputable def wp_c11_sets_20 (L : List Nat) (K : Nat → cw_K) (z : Nat → Nat → Int) (r : Nat → Nat → Nat) (A : Nat → Nat → Int) (t0 : Int) (Q : Int → Prop) : Prop := Q t0
noncomputable def wp_c11_sets (L : List Nat) (K : Nat → cw_K) (z : Nat → Nat → Int) (r : Nat → Nat → Nat) (A : Nat → Nat → Int) (y0 : Nat) (y1 : Int) (Q : Int → Prop) : Prop := cw_O L K 11 y0 ∧ wp_c11_isPlaying L K z r A y0 y1 (fun rv_1 => hz_rI rv_1 ∧ ((rv_1 = 0 → wp_c11_sets_20 L K z r A (-1)  Q) ∧ (¬ (rv_1 = 0) → wp_c11_sideOf L K z r A y0 y1 (fun rv_4 => cw_O L K 7 rv_4 ∧ wp_c11_sets_20 L K z r A (z rv_4 0)  Q))))
set_option maxHeartbeats 4000000 in
set_option maxRecDepth 100000 in
theorem k_c11_sets (l : Launch) (D : va_G) (sz : Nat) (C : Nat → ClassId) (L : List Nat) (K : Nat → cw_K) (z : Nat → Nat → Int) (r : Nat → Nat → Nat) (A : Nat → Nat → Int) (y0 : Nat) (y1 : Int) (Q : Int → Prop) (hw : wp_c11_sets L K z r A y0 y1 Q) : Met l yX11_sets wsX11_sets ({ frames := 2, cells := 0, slots := 0, locals := 41 } : Room) (va_Pc [.ref y0, .int (hz_i y1)] (hm_P D (cw_w C L K z r A) (cw_t C) sz)) (va_Qi (S := Int × (Nat → Nat → Int) × (Nat → Nat → Nat) × (Nat → Nat → Int)) (fun r u => r = hz_i u.1 ∧ Q u.1) (fun u t => hm_B D (va_A (cw_w C L K z r A) sz) (cw_w C L K z r A) (cw_t C) t) (va_A (cw_w C L K z r A) sz)) 0 0 (va_A (cw_w C L K z r A) sz) := by
  refine Met.ofW (cc := cX11_sets) (maxL := 2) (ret := (some .int)) (by decide) rfl ?_
  intro p e s m args below meth c s₁ B hml hv
  obtain ⟨rfl, hsz, hP, hK, hD0, hE⟩ := hv
  have hx := B.exec
  have hb := B.bytes
  have hr := B.returns
  have hts := atoms_spec (ws := wsX11_sets) B.pre
  have hown : s.vm.findClass RX11 = some m.cls := findClass_of_methodNamed B.named
  have hlocks := B.notSynchronized
  have hin7 : ∀ w ∈ u_ws RX7 TX7 8, w ∈ wsX11_sets := fun w h => List.mem_cons_of_mem _ (List.mem_append_left _ (List.mem_append_left _ (List.mem_append_right _ (h))))
  subst hsz
  have hD := hD0.self (sz := s.heap.size)
  generalize hAe : va_A (cw_w C L K z r A) s.heap.size = Ad at hD ⊢
  have hA : ∀ q : Nat, s.heap.size ≤ q → Ad q := fun q h => by rw [← hAe]; exact Or.inr h
  have hS : va_S Ad s.heap s.heap [] := va_S.rf
  have hl := lv_entry ([.ref y0, .int (hz_i y1)]) (n := 2) (Nat.le_of_ble_eq_true rfl)
  rw [lg_entry_eq]
  generalize (lg_sl ([.ref y0, .int (hz_i y1)]) ++ List.replicate (2 - (lg_sl ([.ref y0, .int (hz_i y1)])).length) Slot.unset).toArray = ls at hl ⊢
  have hl : lv_has ls 2 [(0, .ref y0), (1, .int (hz_i y1))] := hl
  refine mw_Q (fun QQ hQQ => ?_)
  have hP0 := hP; have hD0 := hD; have hS0 := hS; have hl0 := hl; have hw0 := hw
  clear hP hD hS hl hw
  have L20 : ∀ (t0 : Int), wp_c11_sets_20 L K z r A t0  Q → ∀ (H : Heap) (locs : List Loc) (ls : Array Slot), va_P D vwCl (cw_w C L K z r A) H → va_D Ad (cw_w C L K z r A) → va_S Ad s.heap H locs → lv_has ls 2 [] → W p l e (headSpec wsX11_sets ({ frames := 2, cells := 0, slots := 0, locals := 41 } : Room)).room s m (List.toArray [.ref y0, .int (hz_i y1)]) below meth c H locs 0 0 QQ (F0 m 20 ls [.int (hz_i t0)]) := by
    intro t0 hw H locs ls hP hD hS hl
    subst hQQ
    subst hAe
    exact W.iret (v := hz_i t0) hx hb hr (fun t ht hW => ⟨⟨hz_i t0, (t0, z, r, A), rfl, ⟨rfl, hw⟩, by rw [ht]; exact hP, va_K.moved hW.alike hK, hD⟩, hS.F ht⟩) hS.2.2 dX11_sets_20
  have hP := hP0; have hD := hD0; have hS := hS0; have hl := hl0; have hw := hw0
  obtain ⟨H, hH⟩ : ∃ H : Heap, H = s.heap := ⟨_, rfl⟩
  obtain ⟨locs, hlocs⟩ : ∃ L : List Loc, L = [] := ⟨_, rfl⟩
  rw [← hH] at hP
  have hS : va_S Ad s.heap H locs := by rw [hH, hlocs]; exact hS
  refine mw_HL hH hlocs ?_
  refine lv_aload_n hx hb dX11_sets_0 rfl (lv_at hl 0 rfl) ?_
  refine lv_iload_n hx hb dX11_sets_1 rfl (lv_at hl 1 rfl) ?_
  obtain ⟨hO_2, hw⟩ := hw
  have hFc := cw_free hD hS hA
  obtain ⟨q9, hq9⟩ := cw_at (C := C) (z := z) (r := r) (A := A) hO_2.1 hO_2.2
  refine va_calli (va_runV (As := [.int (hz_i y1)]) (rest := []) ⟨hx, hb, hml, hown, hts⟩ (k_c11_isPlaying l D _ C L K z r A y0 y1 _ hw) (cwV 1 hts gX11_sets_X11_isPlaying rfl rfl rfl (by decide +kernel) ⟨Nat.le_of_ble_eq_true rfl, Nat.le_of_ble_eq_true rfl⟩) ⟨hm_blind, va_recv hK hP (ci := 11) (q0 := q9) rfl hq9, hm_pre hP hK hD hE⟩ rfl rfl hl.1 rfl (lv_room (Nat.le_of_ble_eq_true rfl)) dX11_sets_2 ⟨Nat.le_of_ble_eq_true rfl, Nat.le_of_ble_eq_true rfl⟩) hS (fun q _ h => hFc q h) hFc (fun rv u t H1 locs ht hvm hw hB hz1 hk1 hS => ?_)
  obtain ⟨rv_1, _, _, _⟩ := u
  obtain ⟨hP, hK1, hD1⟩ := hB
  rw [ht] at hP
  obtain ⟨hrv, hw⟩ := hw
  subst hrv
  have hD := hD1.weaken (fun k q _ h => hFc q.1 h)
  have hP : va_P D vwCl (cw_w C L K z r A) H1 := hP
  have hD : va_D Ad (cw_w C L K z r A) := hD
  generalize H1 = H at hP hS ⊢
  refine W.eq (g2 := F0 m 5 ls [.int (hz_i rv_1)]) rfl ?_
  obtain ⟨h9a, hw⟩ := hw
  refine hz_if_eq (tgt := 19) hx hb dX11_sets_5 (by decide) h9a (fun c_3 => ?_) (fun c_3 => ?_)
  · have hw := hw.1 c_3
    refine lv_iconst (v := hz_i (-1)) hx hb dX11_sets_19 (by decide +kernel) ?_
    exact L20 (-1) hw H locs ls hP hD hS (lv_sub hl [] rfl)
  · have hw := hw.2 c_3
    refine lv_aload_n hx hb dX11_sets_8 rfl (lv_at hl 0 rfl) ?_
    refine lv_iload_n hx hb dX11_sets_9 rfl (lv_at hl 1 rfl) ?_
    have hFc := cw_free hD hS hA
    obtain ⟨q9, hq9⟩ := cw_at (C := C) (z := z) (r := r) (A := A) hO_2.1 hO_2.2
    refine va_callr (va_runV (As := [.int (hz_i y1)]) (rest := []) ⟨hx, hb, hml, hown, hts⟩ (k_c11_sideOf l D _ C L K z r A y0 y1 _ hw) (cwV 1 hts gX11_sets_X11_sideOf rfl rfl rfl (by decide +kernel) ⟨Nat.le_of_ble_eq_true rfl, Nat.le_of_ble_eq_true rfl⟩) ⟨hm_blind, va_recv hK hP (ci := 11) (q0 := q9) rfl hq9, hm_pre hP hK hD hE⟩ rfl rfl hl.1 rfl (lv_room (Nat.le_of_ble_eq_true rfl)) dX11_sets_10 ⟨Nat.le_of_ble_eq_true rfl, Nat.le_of_ble_eq_true rfl⟩) hS (fun q _ h => hFc q h) hFc (fun u ra t H1 locs ht hvm hw hB hz1 hk1 hS => ?_)
    obtain ⟨rv_4, _, _, _⟩ := u
    obtain ⟨hra, hP, hK1, hD1⟩ := hB
    have hra := hra.symm
    subst hra
    rw [ht] at hP
    have hD := hD1.weaken (fun k q _ h => hFc q.1 h)
    have hP : va_P D vwCl (cw_w C L K z r A) H1 := hP
    have hD : va_D Ad (cw_w C L K z r A) := hD
    generalize H1 = H at hP hS ⊢
    refine W.eq (g2 := F0 m 13 ls [.ref rv_4]) rfl ?_
    obtain ⟨hO_5, hw⟩ := hw
    refine cw_get (ci := 7) (v := .int (hz_i (z rv_4 0))) hx hb hts hin7 hown hK hP hO_5.1 hO_5.2 rfl 0 (by decide) (hts (.fieldLink RX11 133 "HiddenMoves$Side" "sets" "I") (List.mem_cons_of_mem _ (List.mem_append_left _ (List.mem_append_left _ (List.mem_append_left _ (List.mem_of_getElem? (i := 0) rfl)))))) (fun _ h9 => h9) rfl dX11_sets_13 ?_
    refine lv_goto (tgt := 20) hx hb dX11_sets_16 (by decide) ?_
    exact L20 (z rv_4 0) hw H locs ls hP hD hS (lv_sub hl [] rfl)

noncomputable def wp_c2_sumOfSizes_20 (L : List Nat) (K : Nat → cw_K) (z : Nat → Nat → Int) (r : Nat → Nat → Nat) (A : Nat → Nat → Int) (y0 : Nat) (x1 : Int) (x3 : Int) (x4 : Int) (P4 : Int → Int → Prop) (Q : Int → Prop) : Prop := ∀ P20 : Int → Int → Prop, (∀ (x1 : Int) (x4 : Int), cw_O L K 2 y0 ∧ cw_G L K 7 (r y0 1) ∧ ((0 : Int) ≤ 1 ∧ 1 < (cw_n K (r y0 1) : Int)) ∧ cw_O L K 7 (cw_g K (r y0 1) ((1 : Int).toNat)) ∧ hz_rI x4 ∧ hz_rI (z (cw_g K (r y0 1) ((1 : Int).toNat)) 5) ∧ ((z (cw_g K (r y0 1) ((1 : Int).toNat)) 5 ≤ x4 → ∀ x3_5 : Int, x3_5 = x3 + 1 → P4 x1 x3_5) ∧ (¬ (z (cw_g K (r y0 1) ((1 : Int).toNat)) 5 ≤ x4) → cw_G L K 10 (r y0 3) ∧ ((0 : Int) ≤ x3 ∧ x3 < (cw_n K (r y0 3) : Int)) ∧ cw_A L K 1 (cw_g K (r y0 3) (x3.toNat)) ∧ ((0 : Int) ≤ x4 ∧ x4 < (cw_n K (cw_g K (r y0 3) (x3.toNat)) : Int)) ∧ hz_rL (A (cw_g K (r y0 3) (x3.toNat)) (x4.toNat)) ∧ -9223372036854775808 < (A (cw_g K (r y0 3) (x3.toNat)) (x4.toNat)) ∧ ∀ x9_8 : Int, x9_8 = ((A (cw_g K (r y0 3) (x3.toNat)) (x4.toNat)).natAbs : Int) → ∀ x1_9 : Int, x1_9 = x1 + x9_8 → ∀ x4_10 : Int, x4_10 = x4 + 1 → P20 x1_9 x4_10)) → P20 x1 x4) → P20 x1 x4
noncomputable def wp_c2_sumOfSizes_4 (L : List Nat) (K : Nat → cw_K) (z : Nat → Nat → Int) (r : Nat → Nat → Nat) (A : Nat → Nat → Int) (y0 : Nat) (x1 : Int) (x3 : Int) (Q : Int → Prop) : Prop := ∀ P4 : Int → Int → Prop, (∀ (x1 : Int) (x3 : Int), cw_O L K 2 y0 ∧ cw_G L K 7 (r y0 1) ∧ ((0 : Int) ≤ 0 ∧ 0 < (cw_n K (r y0 1) : Int)) ∧ cw_O L K 7 (cw_g K (r y0 1) ((0 : Int).toNat)) ∧ hz_rI x3 ∧ hz_rI (z (cw_g K (r y0 1) ((0 : Int).toNat)) 5) ∧ ((z (cw_g K (r y0 1) ((0 : Int).toNat)) 5 ≤ x3 → Q x1) ∧ (¬ (z (cw_g K (r y0 1) ((0 : Int).toNat)) 5 ≤ x3) → wp_c2_sumOfSizes_20 L K z r A y0 x1 x3 0 P4 Q)) → P4 x1 x3) → P4 x1 x3
noncomputable def wp_c2_sumOfSizes (L : List Nat) (K : Nat → cw_K) (z : Nat → Nat → Int) (r : Nat → Nat → Nat) (A : Nat → Nat → Int) (y0 : Nat) (Q : Int → Prop) : Prop := wp_c2_sumOfSizes_4 L K z r A y0 0 0  Q
set_option maxHeartbeats 4000000 in
set_option maxRecDepth 100000 in
theorem k_c2_sumOfSizes (l : Launch) (D : va_G) (sz : Nat) (C : Nat → ClassId) (L : List Nat) (K : Nat → cw_K) (z : Nat → Nat → Int) (r : Nat → Nat → Nat) (A : Nat → Nat → Int) (y0 : Nat) (Q : Int → Prop) (hw : wp_c2_sumOfSizes L K z r A y0 Q) : Met l yX2_sumOfSizes wsX2_sumOfSizes ({ frames := 1, cells := 0, slots := 0, locals := 22 } : Room) (va_Pc [.ref y0] (hm_P D (cw_w C L K z r A) (cw_t C) sz)) (va_Ql (S := Int × (Nat → Nat → Int) × (Nat → Nat → Nat) × (Nat → Nat → Int)) (fun r u => r = hz_l u.1 ∧ Q u.1) (fun u t => hm_B D (va_A (cw_w C L K z r A) sz) (cw_w C L K z r A) (cw_t C) t) (va_A (cw_w C L K z r A) sz)) 0 0 (va_A (cw_w C L K z r A) sz) := by
  refine Met.ofW (cc := cX2_sumOfSizes) (maxL := 5) (ret := (some .long)) (by decide) rfl ?_
  intro p e s m args below meth c s₁ B hml hv
  obtain ⟨rfl, hsz, hP, hK, hD0, hE⟩ := hv
  have hx := B.exec
  have hb := B.bytes
  have hr := B.returns
  have hts := atoms_spec (ws := wsX2_sumOfSizes) B.pre
  have hown : s.vm.findClass RX2 = some m.cls := findClass_of_methodNamed B.named
  have hlocks := B.notSynchronized
  have hin2 : ∀ w ∈ u_ws RX2 TX2 4, w ∈ wsX2_sumOfSizes := fun w h => List.mem_cons_of_mem _ (List.mem_append_left _ (List.mem_append_right _ (h)))
  have hin7 : ∀ w ∈ u_ws RX7 TX7 8, w ∈ wsX2_sumOfSizes := fun w h => List.mem_cons_of_mem _ (List.mem_append_right _ (h))
  subst hsz
  have hD := hD0.self (sz := s.heap.size)
  generalize hAe : va_A (cw_w C L K z r A) s.heap.size = Ad at hD ⊢
  have hA : ∀ q : Nat, s.heap.size ≤ q → Ad q := fun q h => by rw [← hAe]; exact Or.inr h
  have hS : va_S Ad s.heap s.heap [] := va_S.rf
  have hl := lv_entry ([.ref y0]) (n := 5) (Nat.le_of_ble_eq_true rfl)
  rw [lg_entry_eq]
  generalize (lg_sl ([.ref y0]) ++ List.replicate (5 - (lg_sl ([.ref y0])).length) Slot.unset).toArray = ls at hl ⊢
  have hl : lv_has ls 5 [(0, .ref y0)] := hl
  refine mw_Q (fun QQ hQQ => ?_)
  have hP0 := hP; have hD0 := hD; have hS0 := hS; have hl0 := hl; have hw0 := hw
  clear hP hD hS hl hw
  have L4 : ∀ (x1 : Int) (x3 : Int), wp_c2_sumOfSizes_4 L K z r A y0 x1 x3  Q → ∀ (H : Heap) (locs : List Loc) (ls : Array Slot), va_P D vwCl (cw_w C L K z r A) H → va_D Ad (cw_w C L K z r A) → va_S Ad s.heap H locs → lv_has ls 5 [(0, .ref y0), (1, .long (hz_l x1)), (3, .int (hz_i x3))] → W p l e (headSpec wsX2_sumOfSizes ({ frames := 1, cells := 0, slots := 0, locals := 22 } : Room)).room s m (List.toArray [.ref y0]) below meth c H locs 0 0 QQ (F0 m 4 ls []) := by
    intro x1 x3 hw
    obtain ⟨P4, hP4⟩ : ∃ P : Int → Int → Prop, ∀ (x1 : Int) (x3 : Int), P x1 x3 ↔ (∀ (H : Heap) (locs : List Loc) (ls : Array Slot), va_P D vwCl (cw_w C L K z r A) H → va_D Ad (cw_w C L K z r A) → va_S Ad s.heap H locs → lv_has ls 5 [(0, .ref y0), (1, .long (hz_l x1)), (3, .int (hz_i x3))] → W p l e (headSpec wsX2_sumOfSizes ({ frames := 1, cells := 0, slots := 0, locals := 22 } : Room)).room s m (List.toArray [.ref y0]) below meth c H locs 0 0 QQ (F0 m 4 ls [])) := ⟨fun (x1 : Int) (x3 : Int) => ∀ (H : Heap) (locs : List Loc) (ls : Array Slot), va_P D vwCl (cw_w C L K z r A) H → va_D Ad (cw_w C L K z r A) → va_S Ad s.heap H locs → lv_has ls 5 [(0, .ref y0), (1, .long (hz_l x1)), (3, .int (hz_i x3))] → W p l e (headSpec wsX2_sumOfSizes ({ frames := 1, cells := 0, slots := 0, locals := 22 } : Room)).room s m (List.toArray [.ref y0]) below meth c H locs 0 0 QQ (F0 m 4 ls []), fun _ _ => Iff.rfl⟩
    refine (hP4 x1 x3).mp (hw P4 ?_)
    intro x1 x3 hw
    refine (hP4 x1 x3).mpr ?_
    intro H locs ls hP hD hS hl
    have L20 : ∀ (x1 : Int) (x3 : Int) (x4 : Int), wp_c2_sumOfSizes_20 L K z r A y0 x1 x3 x4 P4 Q → ∀ (H : Heap) (locs : List Loc) (ls : Array Slot), va_P D vwCl (cw_w C L K z r A) H → va_D Ad (cw_w C L K z r A) → va_S Ad s.heap H locs → lv_has ls 5 [(0, .ref y0), (1, .long (hz_l x1)), (3, .int (hz_i x3)), (4, .int (hz_i x4))] → W p l e (headSpec wsX2_sumOfSizes ({ frames := 1, cells := 0, slots := 0, locals := 22 } : Room)).room s m (List.toArray [.ref y0]) below meth c H locs 0 0 QQ (F0 m 20 ls []) := by
      intro x1 x3 x4 hw
      obtain ⟨P20, hP20⟩ : ∃ P : Int → Int → Prop, ∀ (x1 : Int) (x4 : Int), P x1 x4 ↔ (∀ (H : Heap) (locs : List Loc) (ls : Array Slot), va_P D vwCl (cw_w C L K z r A) H → va_D Ad (cw_w C L K z r A) → va_S Ad s.heap H locs → lv_has ls 5 [(0, .ref y0), (1, .long (hz_l x1)), (3, .int (hz_i x3)), (4, .int (hz_i x4))] → W p l e (headSpec wsX2_sumOfSizes ({ frames := 1, cells := 0, slots := 0, locals := 22 } : Room)).room s m (List.toArray [.ref y0]) below meth c H locs 0 0 QQ (F0 m 20 ls [])) := ⟨fun (x1 : Int) (x4 : Int) => ∀ (H : Heap) (locs : List Loc) (ls : Array Slot), va_P D vwCl (cw_w C L K z r A) H → va_D Ad (cw_w C L K z r A) → va_S Ad s.heap H locs → lv_has ls 5 [(0, .ref y0), (1, .long (hz_l x1)), (3, .int (hz_i x3)), (4, .int (hz_i x4))] → W p l e (headSpec wsX2_sumOfSizes ({ frames := 1, cells := 0, slots := 0, locals := 22 } : Room)).room s m (List.toArray [.ref y0]) below meth c H locs 0 0 QQ (F0 m 20 ls []), fun _ _ => Iff.rfl⟩
      refine (hP20 x1 x4).mp (hw P20 ?_)
      intro x1 x4 hw
      refine (hP20 x1 x4).mpr ?_
      intro H locs ls hP hD hS hl
      refine lv_iload hx hb dX2_sumOfSizes_20 (lv_at hl 3 rfl) ?_
      refine lv_aload_n hx hb dX2_sumOfSizes_22 rfl (lv_at hl 0 rfl) ?_
      obtain ⟨hO_1, hw⟩ := hw
      refine cw_get (ci := 2) (v := .ref (r y0 1)) hx hb hts hin2 hown hK hP hO_1.1 hO_1.2 rfl 1 (by decide) (hts (.fieldLink RX2 17 "HiddenMoves$Game" "sides" "[LHiddenMoves$Side;") (List.mem_cons_of_mem _ (List.mem_append_left _ (List.mem_append_left _ (List.mem_of_getElem? (i := 0) rfl))))) (fun _ h9 => h9) rfl dX2_sumOfSizes_23 ?_
      refine lv_iconst (v := hz_i 1) hx hb dX2_sumOfSizes_26 (by decide +kernel) ?_
      obtain ⟨hO_2, hw⟩ := hw
      obtain ⟨h9i, hw⟩ := hw
      refine cw_ald hx hb hK hP hO_2.1 hO_2.2.2 rfl h9i hO_2.2.1 dX2_sumOfSizes_27 ?_
      obtain ⟨hO_3, hw⟩ := hw
      refine cw_get (ci := 7) (v := .int (hz_i (z (cw_g K (r y0 1) ((1 : Int).toNat)) 5))) hx hb hts hin7 hown hK hP hO_3.1 hO_3.2 rfl 5 (by decide) (hts (.fieldLink RX2 35 "HiddenMoves$Side" "lines" "I") (List.mem_cons_of_mem _ (List.mem_append_left _ (List.mem_append_left _ (List.mem_of_getElem? (i := 1) rfl))))) (fun _ h9 => h9) rfl dX2_sumOfSizes_28 ?_
      obtain ⟨h9a, hw⟩ := hw
      obtain ⟨h9b, hw⟩ := hw
      refine hz_icmp_ge (tgt := 55) hx hb dX2_sumOfSizes_31 (by decide) h9a h9b (fun c_4 => ?_) (fun c_4 => ?_)
      · have hw := hw.1 c_4
        obtain ⟨x3_5, hx3_5⟩ : ∃ y : Int, y = x3 + 1 := ⟨_, rfl⟩
        have hw := hw x3_5 hx3_5
        refine lv_iinc (v := hz_i x3_5) (lv' := [(3, .int (hz_i x3_5)), (0, .ref y0), (1, .long (hz_l x1)), (4, .int (hz_i x4))]) hx hb dX2_sumOfSizes_55 hl (k := 2) rfl (by rw [hx3_5]; exact hz_i_add _ _) (by decide) rfl (fun ls hl => ?_)
        refine lv_goto (tgt := 4) hx hb dX2_sumOfSizes_58 (by decide) ?_
        exact (hP4 x1 x3_5).mp hw H locs ls hP hD hS (lv_sub hl [1, 2, 0] rfl)
      · have hw := hw.2 c_4
        refine lv_lload_n hx hb dX2_sumOfSizes_34 rfl (lv_at hl 1 rfl) ?_
        refine lv_aload_n hx hb dX2_sumOfSizes_35 rfl (lv_at hl 0 rfl) ?_
        refine cw_get (ci := 2) (v := .ref (r y0 3)) hx hb hts hin2 hown hK hP hO_1.1 hO_1.2 rfl 3 (by decide) (hts (.fieldLink RX2 27 "HiddenMoves$Game" "weights" "[[J") (List.mem_cons_of_mem _ (List.mem_append_left _ (List.mem_append_left _ (List.mem_of_getElem? (i := 2) rfl))))) (fun _ h9 => h9) rfl dX2_sumOfSizes_36 ?_
        refine lv_iload_n hx hb dX2_sumOfSizes_39 rfl (lv_at hl 2 rfl) ?_
        obtain ⟨hO_6, hw⟩ := hw
        obtain ⟨h9i, hw⟩ := hw
        refine cw_aldJ hx hb hK hP hO_6.1 hO_6.2.2 h9i hO_6.2.1 dX2_sumOfSizes_40 ?_
        refine lv_iload hx hb dX2_sumOfSizes_41 (lv_at hl 3 rfl) ?_
        obtain ⟨hO_7, hw⟩ := hw
        obtain ⟨h9i, hw⟩ := hw
        refine cw_lld hx hb hK hP hO_7.1 hO_7.2.2 h9i hO_7.2.1 dX2_sumOfSizes_43 ?_
        obtain ⟨h9a, hw⟩ := hw
        obtain ⟨h9m, hw⟩ := hw
        refine cw_mabs_long (x := A (cw_g K (r y0 3) (x3.toNat)) (x4.toNat)) (y := A (cw_g K (r y0 3) (x3.toNat)) (x4.toNat)) hx hb (by rw [hml]; exact hl.1.symm) hown (hts (.methodLink RX2 38 Lib.MathLoose.abs_long.x) (List.mem_cons_of_mem _ (List.mem_append_left _ (List.mem_append_left _ (List.mem_of_getElem? (i := 3) rfl))))) (hts (.static Lib.MathLoose.abs_long.x) (List.mem_cons_of_mem _ (List.mem_append_left _ (List.mem_append_left _ (List.mem_of_getElem? (i := 4) rfl))))) (hts (.initialized "java/lang/Math") (List.mem_cons_of_mem _ (List.mem_append_left _ (List.mem_append_left _ (List.mem_of_getElem? (i := 5) rfl))))) (hts (.code Lib.MathLoose.abs_long.x Lib.MathLoose.abs_long.code 2 (some .long)) (List.mem_cons_of_mem _ (List.mem_append_left _ (List.mem_append_left _ (List.mem_of_getElem? (i := 6) rfl))))) (Nat.le_of_ble_eq_true rfl) (Nat.le_of_ble_eq_true rfl) (Nat.zero_le _) (Nat.zero_le _) dX2_sumOfSizes_44 h9a h9m (fun x9_8 hx9_8 => ?_)
        have hw := hw x9_8 hx9_8
        refine hz_ladd hx hb dX2_sumOfSizes_47 ?_
        refine hz_topl (fun x1_9 hx1_9 => ?_)
        have hw := hw x1_9 hx1_9
        refine lv_lstore_n (lv' := [(1, .long (hz_l x1_9)), (0, .ref y0), (3, .int (hz_i x3)), (4, .int (hz_i x4))]) hx hb dX2_sumOfSizes_48 rfl hl (by decide) rfl (fun ls hl => ?_)
        obtain ⟨x4_10, hx4_10⟩ : ∃ y : Int, y = x4 + 1 := ⟨_, rfl⟩
        have hw := hw x4_10 hx4_10
        refine lv_iinc (v := hz_i x4_10) (lv' := [(4, .int (hz_i x4_10)), (1, .long (hz_l x1_9)), (0, .ref y0), (3, .int (hz_i x3))]) hx hb dX2_sumOfSizes_49 hl (k := 3) rfl (by rw [hx4_10]; exact hz_i_add _ _) (by decide) rfl (fun ls hl => ?_)
        refine lv_goto (tgt := 20) hx hb dX2_sumOfSizes_52 (by decide) ?_
        exact (hP20 x1_9 x4_10).mp hw H locs ls hP hD hS (lv_sub hl [2, 1, 3, 0] rfl)
    refine lv_iload_n hx hb dX2_sumOfSizes_4 rfl (lv_at hl 2 rfl) ?_
    refine lv_aload_n hx hb dX2_sumOfSizes_5 rfl (lv_at hl 0 rfl) ?_
    obtain ⟨hO_11, hw⟩ := hw
    refine cw_get (ci := 2) (v := .ref (r y0 1)) hx hb hts hin2 hown hK hP hO_11.1 hO_11.2 rfl 1 (by decide) (hts (.fieldLink RX2 17 "HiddenMoves$Game" "sides" "[LHiddenMoves$Side;") (List.mem_cons_of_mem _ (List.mem_append_left _ (List.mem_append_left _ (List.mem_of_getElem? (i := 0) rfl))))) (fun _ h9 => h9) rfl dX2_sumOfSizes_6 ?_
    refine lv_iconst (v := hz_i 0) hx hb dX2_sumOfSizes_9 (by decide +kernel) ?_
    obtain ⟨hO_12, hw⟩ := hw
    obtain ⟨h9i, hw⟩ := hw
    refine cw_ald hx hb hK hP hO_12.1 hO_12.2.2 rfl h9i hO_12.2.1 dX2_sumOfSizes_10 ?_
    obtain ⟨hO_13, hw⟩ := hw
    refine cw_get (ci := 7) (v := .int (hz_i (z (cw_g K (r y0 1) ((0 : Int).toNat)) 5))) hx hb hts hin7 hown hK hP hO_13.1 hO_13.2 rfl 5 (by decide) (hts (.fieldLink RX2 35 "HiddenMoves$Side" "lines" "I") (List.mem_cons_of_mem _ (List.mem_append_left _ (List.mem_append_left _ (List.mem_of_getElem? (i := 1) rfl))))) (fun _ h9 => h9) rfl dX2_sumOfSizes_11 ?_
    obtain ⟨h9a, hw⟩ := hw
    obtain ⟨h9b, hw⟩ := hw
    refine hz_icmp_ge (tgt := 61) hx hb dX2_sumOfSizes_14 (by decide) h9a h9b (fun c_14 => ?_) (fun c_14 => ?_)
    · have hw := hw.1 c_14
      refine lv_lload_n hx hb dX2_sumOfSizes_61 rfl (lv_at hl 1 rfl) ?_
      subst hQQ
      subst hAe
      exact W.lret (v := hz_l x1) hx hb hr (fun t ht hW => ⟨⟨hz_l x1, (x1, z, r, A), rfl, ⟨rfl, hw⟩, by rw [ht]; exact hP, va_K.moved hW.alike hK, hD⟩, hS.F ht⟩) hS.2.2 dX2_sumOfSizes_62
    · have hw := hw.2 c_14
      refine lv_iconst (v := hz_i 0) hx hb dX2_sumOfSizes_17 (by decide +kernel) ?_
      refine lv_istore (lv' := [(4, .int (hz_i 0)), (0, .ref y0), (1, .long (hz_l x1)), (3, .int (hz_i x3))]) hx hb dX2_sumOfSizes_18 hl (by decide) rfl (fun ls hl => ?_)
      exact L20 x1 x3 0 hw H locs ls hP hD hS (lv_sub hl [1, 2, 3, 0] rfl)
  have hP := hP0; have hD := hD0; have hS := hS0; have hl := hl0; have hw := hw0
  obtain ⟨H, hH⟩ : ∃ H : Heap, H = s.heap := ⟨_, rfl⟩
  obtain ⟨locs, hlocs⟩ : ∃ L : List Loc, L = [] := ⟨_, rfl⟩
  rw [← hH] at hP
  have hS : va_S Ad s.heap H locs := by rw [hH, hlocs]; exact hS
  refine mw_HL hH hlocs ?_
  refine lv_lconst (v := hz_l 0) hx hb dX2_sumOfSizes_0 (by decide +kernel) ?_
  refine lv_lstore_n (lv' := [(1, .long (hz_l 0)), (0, .ref y0)]) hx hb dX2_sumOfSizes_1 rfl hl (by decide) rfl (fun ls hl => ?_)
  refine lv_iconst (v := hz_i 0) hx hb dX2_sumOfSizes_2 (by decide +kernel) ?_
  refine lv_istore_n (lv' := [(3, .int (hz_i 0)), (1, .long (hz_l 0)), (0, .ref y0)]) hx hb dX2_sumOfSizes_3 rfl hl (by decide) rfl (fun ls hl => ?_)
  exact L4 0 0 hw H locs ls hP hD hS (lv_sub hl [2, 1, 0] rfl)

noncomputable def wp_c8_cell (L : List Nat) (K : Nat → cw_K) (z : Nat → Nat → Int) (r : Nat → Nat → Nat) (A : Nat → Nat → Int) (y0 : Nat) (y1 : Int) (y2 : Int) (Q : Nat → Prop) : Prop := cw_O L K 8 y0 ∧ cw_G L K 4 (r y0 0) ∧ ((0 : Int) ≤ (y1 * 30) + y2 ∧ (y1 * 30) + y2 < (cw_n K (r y0 0) : Int)) ∧ Q (cw_g K (r y0 0) (((y1 * 30) + y2).toNat))
set_option maxHeartbeats 4000000 in
set_option maxRecDepth 100000 in
theorem k_c8_cell (l : Launch) (D : va_G) (sz : Nat) (C : Nat → ClassId) (L : List Nat) (K : Nat → cw_K) (z : Nat → Nat → Int) (r : Nat → Nat → Nat) (A : Nat → Nat → Int) (y0 : Nat) (y1 : Int) (y2 : Int) (Q : Nat → Prop) (hw : wp_c8_cell L K z r A y0 y1 y2 Q) : Met l yX8_cell wsX8_cell ({ frames := 0, cells := 0, slots := 0, locals := 0 } : Room) (va_Pc [.ref y0, .int (hz_i y1), .int (hz_i y2)] (hm_P D (cw_w C L K z r A) (cw_t C) sz)) (va_Qr (S := Nat × (Nat → Nat → Int) × (Nat → Nat → Nat) × (Nat → Nat → Int)) (fun u => Q u.1) (fun u a t => a = u.1 ∧ hm_B D (va_A (cw_w C L K z r A) sz) (cw_w C L K z r A) (cw_t C) t) (va_A (cw_w C L K z r A) sz)) 0 0 (va_A (cw_w C L K z r A) sz) := by
  refine Met.ofW (cc := cX8_cell) (maxL := 3) (ret := (some (.object "HiddenMoves$Big"))) (by decide) rfl ?_
  intro p e s m args below meth c s₁ B hml hv
  obtain ⟨rfl, hsz, hP, hK, hD0, hE⟩ := hv
  have hx := B.exec
  have hb := B.bytes
  have hr := B.returns
  have hts := atoms_spec (ws := wsX8_cell) B.pre
  have hown : s.vm.findClass RX8 = some m.cls := findClass_of_methodNamed B.named
  have hlocks := B.notSynchronized
  have hin8 : ∀ w ∈ u_ws RX8 TX8 13, w ∈ wsX8_cell := fun w h => List.mem_cons_of_mem _ (List.mem_append_right _ (h))
  subst hsz
  have hD := hD0.self (sz := s.heap.size)
  generalize hAe : va_A (cw_w C L K z r A) s.heap.size = Ad at hD ⊢
  have hA : ∀ q : Nat, s.heap.size ≤ q → Ad q := fun q h => by rw [← hAe]; exact Or.inr h
  have hS : va_S Ad s.heap s.heap [] := va_S.rf
  have hl := lv_entry ([.ref y0, .int (hz_i y1), .int (hz_i y2)]) (n := 3) (Nat.le_of_ble_eq_true rfl)
  rw [lg_entry_eq]
  generalize (lg_sl ([.ref y0, .int (hz_i y1), .int (hz_i y2)]) ++ List.replicate (3 - (lg_sl ([.ref y0, .int (hz_i y1), .int (hz_i y2)])).length) Slot.unset).toArray = ls at hl ⊢
  have hl : lv_has ls 3 [(0, .ref y0), (1, .int (hz_i y1)), (2, .int (hz_i y2))] := hl
  refine mw_Q (fun QQ hQQ => ?_)
  have hP0 := hP; have hD0 := hD; have hS0 := hS; have hl0 := hl; have hw0 := hw
  clear hP hD hS hl hw
  have hP := hP0; have hD := hD0; have hS := hS0; have hl := hl0; have hw := hw0
  obtain ⟨H, hH⟩ : ∃ H : Heap, H = s.heap := ⟨_, rfl⟩
  obtain ⟨locs, hlocs⟩ : ∃ L : List Loc, L = [] := ⟨_, rfl⟩
  rw [← hH] at hP
  have hS : va_S Ad s.heap H locs := by rw [hH, hlocs]; exact hS
  refine mw_HL hH hlocs ?_
  refine lv_aload_n hx hb dX8_cell_0 rfl (lv_at hl 0 rfl) ?_
  obtain ⟨hO_1, hw⟩ := hw
  refine cw_get (ci := 8) (v := .ref (r y0 0)) hx hb hts hin8 hown hK hP hO_1.1 hO_1.2 rfl 0 (by decide) (hts (.fieldLink RX8 13 "HiddenMoves$Solver" "cells" "[LHiddenMoves$Big;") (List.mem_cons_of_mem _ (List.mem_append_left _ (List.mem_of_getElem? (i := 0) rfl)))) (fun _ h9 => h9) rfl dX8_cell_1 ?_
  refine lv_iload_n hx hb dX8_cell_4 rfl (lv_at hl 1 rfl) ?_
  refine lv_bipush (v := hz_i 30) hx hb dX8_cell_5 (by decide +kernel) ?_
  refine hz_imul hx hb dX8_cell_7 ?_
  refine lv_iload_n hx hb dX8_cell_8 rfl (lv_at hl 2 rfl) ?_
  refine hz_iadd hx hb dX8_cell_9 ?_
  obtain ⟨hO_2, hw⟩ := hw
  obtain ⟨h9i, hw⟩ := hw
  refine cw_ald hx hb hK hP hO_2.1 hO_2.2.2 rfl h9i hO_2.2.1 dX8_cell_10 ?_
  subst hQQ
  subst hAe
  exact W.aret hx hb hr (Or.inl ⟨_, rfl⟩) (Or.inr ⟨_, rfl⟩) (fun t ht hW => ⟨⟨(cw_g K (r y0 0) (((y1 * 30) + y2).toNat), z, r, A), (cw_g K (r y0 0) (((y1 * 30) + y2).toNat)), rfl, hw, rfl, by rw [ht]; exact hP, va_K.moved hW.alike hK, hD⟩, hS.F ht⟩) hS.2.2 dX8_cell_11

noncomputable def wp_c8_clear_72 (L : List Nat) (K : Nat → cw_K) (z : Nat → Nat → Int) (r : Nat → Nat → Nat) (A : Nat → Nat → Int) (y0 : Nat) (x1 : Int) (Q : (Nat → Nat → Int) → (Nat → Nat → Int) → Prop) : Prop := ∀ P72 : (Nat → Nat → Int) → Int → Prop, (∀ (A : Nat → Nat → Int) (x1 : Int), cw_O L K 8 y0 ∧ hz_rI x1 ∧ hz_rI (z y0 5) ∧ ((z y0 5 ≤ x1 → cw_O L K 0 (r y0 9) ∧ wp_c0_put L K z r A (r y0 9) 1 (fun z_4 A_5 => Q z_4 A_5)) ∧ (¬ (z y0 5 ≤ x1) → cw_A L K 0 (r y0 2) ∧ ((0 : Int) ≤ x1 ∧ x1 < (cw_n K (r y0 2) : Int)) ∧ ∀ A_8 : Nat → Nat → Int, A_8 = hz_s A (r y0 2) x1 x1 → ∀ x1_9 : Int, x1_9 = x1 + 1 → P72 A_8 x1_9)) → P72 A x1) → P72 A x1
noncomputable def wp_c8_clear_44 (L : List Nat) (K : Nat → cw_K) (z : Nat → Nat → Int) (r : Nat → Nat → Nat) (A : Nat → Nat → Int) (y0 : Nat) (x1 : Int) (Q : (Nat → Nat → Int) → (Nat → Nat → Int) → Prop) : Prop := ∀ P44 : (Nat → Nat → Int) → Int → Prop, (∀ (A : Nat → Nat → Int) (x1 : Int), cw_O L K 8 y0 ∧ hz_rI x1 ∧ hz_rI (z y0 4) ∧ ((z y0 4 ≤ x1 → wp_c8_clear_72 L K z r A y0 0  Q) ∧ (¬ (z y0 4 ≤ x1) → cw_A L K 0 (r y0 1) ∧ ((0 : Int) ≤ x1 ∧ x1 < (cw_n K (r y0 1) : Int)) ∧ ∀ A_13 : Nat → Nat → Int, A_13 = hz_s A (r y0 1) x1 ((z y0 5) + x1) → ∀ x1_14 : Int, x1_14 = x1 + 1 → P44 A_13 x1_14)) → P44 A x1) → P44 A x1
noncomputable def wp_c8_clear_12 (L : List Nat) (K : Nat → cw_K) (z : Nat → Nat → Int) (r : Nat → Nat → Nat) (A : Nat → Nat → Int) (y0 : Nat) (x1 : Int) (x2 : Int) (P2 : (Nat → Nat → Int) → (Nat → Nat → Int) → Int → Prop) (Q : (Nat → Nat → Int) → (Nat → Nat → Int) → Prop) : Prop := ∀ P12 : (Nat → Nat → Int) → (Nat → Nat → Int) → Int → Prop, (∀ (z : Nat → Nat → Int) (A : Nat → Nat → Int) (x2 : Int), cw_O L K 8 y0 ∧ hz_rI x2 ∧ hz_rI (z y0 5) ∧ ((z y0 5 < x2 → ∀ x1_17 : Int, x1_17 = x1 + 1 → P2 z A x1_17) ∧ (¬ (z y0 5 < x2) → wp_c8_cell L K z r A y0 x1 x2 (fun rv_18 => cw_O L K 0 rv_18 ∧ wp_c0_put L K z r A rv_18 0 (fun z_20 A_21 => ∀ x2_23 : Int, x2_23 = x2 + 1 → P12 z_20 A_21 x2_23)))) → P12 z A x2) → P12 z A x2
noncomputable def wp_c8_clear_2 (L : List Nat) (K : Nat → cw_K) (z : Nat → Nat → Int) (r : Nat → Nat → Nat) (A : Nat → Nat → Int) (y0 : Nat) (x1 : Int) (Q : (Nat → Nat → Int) → (Nat → Nat → Int) → Prop) : Prop := ∀ P2 : (Nat → Nat → Int) → (Nat → Nat → Int) → Int → Prop, (∀ (z : Nat → Nat → Int) (A : Nat → Nat → Int) (x1 : Int), cw_O L K 8 y0 ∧ hz_rI x1 ∧ hz_rI (z y0 4) ∧ ((z y0 4 < x1 → wp_c8_clear_44 L K z r A y0 0  Q) ∧ (¬ (z y0 4 < x1) → wp_c8_clear_12 L K z r A y0 x1 0 P2 Q)) → P2 z A x1) → P2 z A x1
noncomputable def wp_c8_clear (L : List Nat) (K : Nat → cw_K) (z : Nat → Nat → Int) (r : Nat → Nat → Nat) (A : Nat → Nat → Int) (y0 : Nat) (Q : (Nat → Nat → Int) → (Nat → Nat → Int) → Prop) : Prop := wp_c8_clear_2 L K z r A y0 0  Q
set_option maxHeartbeats 4000000 in
set_option maxRecDepth 100000 in
theorem k_c8_clear (l : Launch) (D : va_G) (sz : Nat) (C : Nat → ClassId) (L : List Nat) (K : Nat → cw_K) (z : Nat → Nat → Int) (r : Nat → Nat → Nat) (A : Nat → Nat → Int) (y0 : Nat) (Q : (Nat → Nat → Int) → (Nat → Nat → Int) → Prop) (hw : wp_c8_clear L K z r A y0 Q) : Met l yX8_clear wsX8_clear ({ frames := 1, cells := 0, slots := 0, locals := 25 } : Room) (va_Pc [.ref y0] (hm_P D (cw_w C L K z r A) (cw_t C) sz)) (va_Qv (S := Int × (Nat → Nat → Int) × (Nat → Nat → Nat) × (Nat → Nat → Int)) (fun u => Q u.2.1 u.2.2.2) (fun u t => hm_B D (va_A (cw_w C L K z r A) sz) (cw_w C L K u.2.1 r u.2.2.2) (cw_t C) t) (va_A (cw_w C L K z r A) sz)) 0 0 (va_A (cw_w C L K z r A) sz) := by
  refine Met.ofW (cc := cX8_clear) (maxL := 3) (ret := none) (by decide) rfl ?_
  intro p e s m args below meth c s₁ B hml hv
  obtain ⟨rfl, hsz, hP, hK, hD0, hE⟩ := hv
  have hx := B.exec
  have hb := B.bytes
  have hr := B.returns
  have hts := atoms_spec (ws := wsX8_clear) B.pre
  have hown : s.vm.findClass RX8 = some m.cls := findClass_of_methodNamed B.named
  have hlocks := B.notSynchronized
  have hin8 : ∀ w ∈ u_ws RX8 TX8 13, w ∈ wsX8_clear := fun w h => List.mem_cons_of_mem _ (List.mem_append_left _ (List.mem_append_right _ (h)))
  subst hsz
  have hD := hD0.self (sz := s.heap.size)
  generalize hAe : va_A (cw_w C L K z r A) s.heap.size = Ad at hD ⊢
  have hA : ∀ q : Nat, s.heap.size ≤ q → Ad q := fun q h => by rw [← hAe]; exact Or.inr h
  have hS : va_S Ad s.heap s.heap [] := va_S.rf
  have hl := lv_entry ([.ref y0]) (n := 3) (Nat.le_of_ble_eq_true rfl)
  rw [lg_entry_eq]
  generalize (lg_sl ([.ref y0]) ++ List.replicate (3 - (lg_sl ([.ref y0])).length) Slot.unset).toArray = ls at hl ⊢
  have hl : lv_has ls 3 [(0, .ref y0)] := hl
  refine mw_Q (fun QQ hQQ => ?_)
  have hP0 := hP; have hD0 := hD; have hS0 := hS; have hl0 := hl; have hw0 := hw
  clear hP hD hS hl hw
  have L72 : ∀ (z : Nat → Nat → Int) (A : Nat → Nat → Int) (x1 : Int), wp_c8_clear_72 L K z r A y0 x1  Q → ∀ (H : Heap) (locs : List Loc) (ls : Array Slot), va_P D vwCl (cw_w C L K z r A) H → va_D Ad (cw_w C L K z r A) → va_S Ad s.heap H locs → lv_has ls 3 [(0, .ref y0), (1, .int (hz_i x1))] → W p l e (headSpec wsX8_clear ({ frames := 1, cells := 0, slots := 0, locals := 25 } : Room)).room s m (List.toArray [.ref y0]) below meth c H locs 0 0 QQ (F0 m 72 ls []) := by
    intro z A x1 hw
    obtain ⟨P72, hP72⟩ : ∃ P : (Nat → Nat → Int) → Int → Prop, ∀ (A : Nat → Nat → Int) (x1 : Int), P A x1 ↔ (∀ (H : Heap) (locs : List Loc) (ls : Array Slot), va_P D vwCl (cw_w C L K z r A) H → va_D Ad (cw_w C L K z r A) → va_S Ad s.heap H locs → lv_has ls 3 [(0, .ref y0), (1, .int (hz_i x1))] → W p l e (headSpec wsX8_clear ({ frames := 1, cells := 0, slots := 0, locals := 25 } : Room)).room s m (List.toArray [.ref y0]) below meth c H locs 0 0 QQ (F0 m 72 ls [])) := ⟨fun (A : Nat → Nat → Int) (x1 : Int) => ∀ (H : Heap) (locs : List Loc) (ls : Array Slot), va_P D vwCl (cw_w C L K z r A) H → va_D Ad (cw_w C L K z r A) → va_S Ad s.heap H locs → lv_has ls 3 [(0, .ref y0), (1, .int (hz_i x1))] → W p l e (headSpec wsX8_clear ({ frames := 1, cells := 0, slots := 0, locals := 25 } : Room)).room s m (List.toArray [.ref y0]) below meth c H locs 0 0 QQ (F0 m 72 ls []), fun _ _ => Iff.rfl⟩
    refine (hP72 A x1).mp (hw P72 ?_)
    intro A x1 hw
    refine (hP72 A x1).mpr ?_
    intro H locs ls hP hD hS hl
    refine lv_iload_n hx hb dX8_clear_72 rfl (lv_at hl 1 rfl) ?_
    refine lv_aload_n hx hb dX8_clear_73 rfl (lv_at hl 0 rfl) ?_
    obtain ⟨hO_1, hw⟩ := hw
    refine cw_get (ci := 8) (v := .int (hz_i (z y0 5))) hx hb hts hin8 hown hK hP hO_1.1 hO_1.2 rfl 5 (by decide) (hts (.fieldLink RX8 32 "HiddenMoves$Solver" "columns" "I") (List.mem_cons_of_mem _ (List.mem_append_left _ (List.mem_append_left _ (List.mem_of_getElem? (i := 1) rfl))))) (fun _ h9 => h9) rfl dX8_clear_74 ?_
    obtain ⟨h9a, hw⟩ := hw
    obtain ⟨h9b, hw⟩ := hw
    refine hz_icmp_ge (tgt := 93) hx hb dX8_clear_77 (by decide) h9a h9b (fun c_2 => ?_) (fun c_2 => ?_)
    · have hw := hw.1 c_2
      refine lv_aload_n hx hb dX8_clear_93 rfl (lv_at hl 0 rfl) ?_
      refine cw_get (ci := 8) (v := .ref (r y0 9)) hx hb hts hin8 hown hK hP hO_1.1 hO_1.2 rfl 9 (by decide) (hts (.fieldLink RX8 48 "HiddenMoves$Solver" "scale" "LHiddenMoves$Big;") (List.mem_cons_of_mem _ (List.mem_append_left _ (List.mem_append_left _ (List.mem_of_getElem? (i := 4) rfl))))) (fun _ h9 => h9) rfl dX8_clear_94 ?_
      refine lv_lconst (v := hz_l 1) hx hb dX8_clear_97 (by decide +kernel) ?_
      obtain ⟨hO_6, hw⟩ := hw
      have hFc := cw_free hD hS hA
      obtain ⟨q9, hq9⟩ := cw_at (C := C) (z := z) (r := r) (A := A) hO_6.1 hO_6.2
      refine va_callv (va_runV (As := [.long (hz_l 1)]) (rest := []) ⟨hx, hb, hml, hown, hts⟩ (k_c0_put l D _ C L K z r A (r y0 9) 1 _ hw) (cwV 1 hts gX8_clear_X0_put rfl rfl rfl (by decide +kernel) ⟨Nat.le_of_ble_eq_true rfl, Nat.le_of_ble_eq_true rfl⟩) ⟨hm_blind, va_recv hK hP (ci := 0) (q0 := q9) rfl hq9, hm_pre hP hK hD hE⟩ rfl rfl hl.1 rfl (lv_room (Nat.le_of_ble_eq_true rfl)) dX8_clear_98 ⟨Nat.le_of_ble_eq_true rfl, Nat.le_of_ble_eq_true rfl⟩) hS (fun q _ h => hFc q h) hFc (fun u t H1 locs ht hvm hw hB hz1 hk1 hS => ?_)
      obtain ⟨rv_3, z_4, _, A_5⟩ := u
      obtain ⟨hP, hK1, hD1⟩ := hB
      rw [ht] at hP
      have hD := hD1.weaken (fun k q _ h => hFc q.1 h)
      have hP : va_P D vwCl (cw_w C L K z_4 r A_5) H1 := hP
      have hD : va_D Ad (cw_w C L K z_4 r A_5) := hD
      generalize H1 = H at hP hS ⊢
      refine W.eq (g2 := F0 m 101 ls []) rfl ?_
      subst hQQ
      subst hAe
      exact W.vret hx hb hr (fun t ht hW => ⟨⟨(0, z_4, r, A_5), rfl, hw, by rw [ht]; exact hP, va_K.moved hW.alike hK, hD⟩, hS.F ht⟩) hS.2.2 dX8_clear_101
    · have hw := hw.2 c_2
      refine lv_aload_n hx hb dX8_clear_80 rfl (lv_at hl 0 rfl) ?_
      refine cw_get (ci := 8) (v := .ref (r y0 2)) hx hb hts hin8 hown hK hP hO_1.1 hO_1.2 rfl 2 (by decide) (hts (.fieldLink RX8 21 "HiddenMoves$Solver" "columnUnknowns" "[I") (List.mem_cons_of_mem _ (List.mem_append_left _ (List.mem_append_left _ (List.mem_of_getElem? (i := 3) rfl))))) (fun _ h9 => h9) rfl dX8_clear_81 ?_
      refine lv_iload_n hx hb dX8_clear_84 rfl (lv_at hl 1 rfl) ?_
      refine lv_iload_n hx hb dX8_clear_85 rfl (lv_at hl 1 rfl) ?_
      obtain ⟨hO_7, hw⟩ := hw
      obtain ⟨h9i, hw⟩ := hw
      refine cw_ist (v := x1) hx hb hK hP hD hS hO_7.1 hO_7.2.2 h9i hO_7.2.1 dX8_clear_86 (fun H locs hP hD hS => ?_)
      obtain ⟨A_8, hA_8⟩ : ∃ y : Nat → Nat → Int, y = hz_s A (r y0 2) x1 x1 := ⟨_, rfl⟩
      rw [← hA_8] at hP hD
      have hw := hw A_8 hA_8
      obtain ⟨x1_9, hx1_9⟩ : ∃ y : Int, y = x1 + 1 := ⟨_, rfl⟩
      have hw := hw x1_9 hx1_9
      refine lv_iinc (v := hz_i x1_9) (lv' := [(1, .int (hz_i x1_9)), (0, .ref y0)]) hx hb dX8_clear_87 hl (k := 1) rfl (by rw [hx1_9]; exact hz_i_add _ _) (by decide) rfl (fun ls hl => ?_)
      refine lv_goto (tgt := 72) hx hb dX8_clear_90 (by decide) ?_
      exact (hP72 A_8 x1_9).mp hw H locs ls hP hD hS (lv_sub hl [1, 0] rfl)
  have L44 : ∀ (z : Nat → Nat → Int) (A : Nat → Nat → Int) (x1 : Int), wp_c8_clear_44 L K z r A y0 x1  Q → ∀ (H : Heap) (locs : List Loc) (ls : Array Slot), va_P D vwCl (cw_w C L K z r A) H → va_D Ad (cw_w C L K z r A) → va_S Ad s.heap H locs → lv_has ls 3 [(0, .ref y0), (1, .int (hz_i x1))] → W p l e (headSpec wsX8_clear ({ frames := 1, cells := 0, slots := 0, locals := 25 } : Room)).room s m (List.toArray [.ref y0]) below meth c H locs 0 0 QQ (F0 m 44 ls []) := by
    intro z A x1 hw
    obtain ⟨P44, hP44⟩ : ∃ P : (Nat → Nat → Int) → Int → Prop, ∀ (A : Nat → Nat → Int) (x1 : Int), P A x1 ↔ (∀ (H : Heap) (locs : List Loc) (ls : Array Slot), va_P D vwCl (cw_w C L K z r A) H → va_D Ad (cw_w C L K z r A) → va_S Ad s.heap H locs → lv_has ls 3 [(0, .ref y0), (1, .int (hz_i x1))] → W p l e (headSpec wsX8_clear ({ frames := 1, cells := 0, slots := 0, locals := 25 } : Room)).room s m (List.toArray [.ref y0]) below meth c H locs 0 0 QQ (F0 m 44 ls [])) := ⟨fun (A : Nat → Nat → Int) (x1 : Int) => ∀ (H : Heap) (locs : List Loc) (ls : Array Slot), va_P D vwCl (cw_w C L K z r A) H → va_D Ad (cw_w C L K z r A) → va_S Ad s.heap H locs → lv_has ls 3 [(0, .ref y0), (1, .int (hz_i x1))] → W p l e (headSpec wsX8_clear ({ frames := 1, cells := 0, slots := 0, locals := 25 } : Room)).room s m (List.toArray [.ref y0]) below meth c H locs 0 0 QQ (F0 m 44 ls []), fun _ _ => Iff.rfl⟩
    refine (hP44 A x1).mp (hw P44 ?_)
    intro A x1 hw
    refine (hP44 A x1).mpr ?_
    intro H locs ls hP hD hS hl
    refine lv_iload_n hx hb dX8_clear_44 rfl (lv_at hl 1 rfl) ?_
    refine lv_aload_n hx hb dX8_clear_45 rfl (lv_at hl 0 rfl) ?_
    obtain ⟨hO_10, hw⟩ := hw
    refine cw_get (ci := 8) (v := .int (hz_i (z y0 4))) hx hb hts hin8 hown hK hP hO_10.1 hO_10.2 rfl 4 (by decide) (hts (.fieldLink RX8 28 "HiddenMoves$Solver" "rows" "I") (List.mem_cons_of_mem _ (List.mem_append_left _ (List.mem_append_left _ (List.mem_of_getElem? (i := 0) rfl))))) (fun _ h9 => h9) rfl dX8_clear_46 ?_
    obtain ⟨h9a, hw⟩ := hw
    obtain ⟨h9b, hw⟩ := hw
    refine hz_icmp_ge (tgt := 70) hx hb dX8_clear_49 (by decide) h9a h9b (fun c_11 => ?_) (fun c_11 => ?_)
    · have hw := hw.1 c_11
      refine lv_iconst (v := hz_i 0) hx hb dX8_clear_70 (by decide +kernel) ?_
      refine lv_istore_n (lv' := [(1, .int (hz_i 0)), (0, .ref y0)]) hx hb dX8_clear_71 rfl hl (by decide) rfl (fun ls hl => ?_)
      exact L72 z A 0 hw H locs ls hP hD hS (lv_sub hl [1, 0] rfl)
    · have hw := hw.2 c_11
      refine lv_aload_n hx hb dX8_clear_52 rfl (lv_at hl 0 rfl) ?_
      refine cw_get (ci := 8) (v := .ref (r y0 1)) hx hb hts hin8 hown hK hP hO_10.1 hO_10.2 rfl 1 (by decide) (hts (.fieldLink RX8 17 "HiddenMoves$Solver" "rowUnknowns" "[I") (List.mem_cons_of_mem _ (List.mem_append_left _ (List.mem_append_left _ (List.mem_of_getElem? (i := 2) rfl))))) (fun _ h9 => h9) rfl dX8_clear_53 ?_
      refine lv_iload_n hx hb dX8_clear_56 rfl (lv_at hl 1 rfl) ?_
      refine lv_aload_n hx hb dX8_clear_57 rfl (lv_at hl 0 rfl) ?_
      refine cw_get (ci := 8) (v := .int (hz_i (z y0 5))) hx hb hts hin8 hown hK hP hO_10.1 hO_10.2 rfl 5 (by decide) (hts (.fieldLink RX8 32 "HiddenMoves$Solver" "columns" "I") (List.mem_cons_of_mem _ (List.mem_append_left _ (List.mem_append_left _ (List.mem_of_getElem? (i := 1) rfl))))) (fun _ h9 => h9) rfl dX8_clear_58 ?_
      refine lv_iload_n hx hb dX8_clear_61 rfl (lv_at hl 1 rfl) ?_
      refine hz_iadd hx hb dX8_clear_62 ?_
      obtain ⟨hO_12, hw⟩ := hw
      obtain ⟨h9i, hw⟩ := hw
      refine cw_ist (v := (z y0 5) + x1) hx hb hK hP hD hS hO_12.1 hO_12.2.2 h9i hO_12.2.1 dX8_clear_63 (fun H locs hP hD hS => ?_)
      obtain ⟨A_13, hA_13⟩ : ∃ y : Nat → Nat → Int, y = hz_s A (r y0 1) x1 ((z y0 5) + x1) := ⟨_, rfl⟩
      rw [← hA_13] at hP hD
      have hw := hw A_13 hA_13
      obtain ⟨x1_14, hx1_14⟩ : ∃ y : Int, y = x1 + 1 := ⟨_, rfl⟩
      have hw := hw x1_14 hx1_14
      refine lv_iinc (v := hz_i x1_14) (lv' := [(1, .int (hz_i x1_14)), (0, .ref y0)]) hx hb dX8_clear_64 hl (k := 1) rfl (by rw [hx1_14]; exact hz_i_add _ _) (by decide) rfl (fun ls hl => ?_)
      refine lv_goto (tgt := 44) hx hb dX8_clear_67 (by decide) ?_
      exact (hP44 A_13 x1_14).mp hw H locs ls hP hD hS (lv_sub hl [1, 0] rfl)
  have L2 : ∀ (z : Nat → Nat → Int) (A : Nat → Nat → Int) (x1 : Int), wp_c8_clear_2 L K z r A y0 x1  Q → ∀ (H : Heap) (locs : List Loc) (ls : Array Slot), va_P D vwCl (cw_w C L K z r A) H → va_D Ad (cw_w C L K z r A) → va_S Ad s.heap H locs → lv_has ls 3 [(0, .ref y0), (1, .int (hz_i x1))] → W p l e (headSpec wsX8_clear ({ frames := 1, cells := 0, slots := 0, locals := 25 } : Room)).room s m (List.toArray [.ref y0]) below meth c H locs 0 0 QQ (F0 m 2 ls []) := by
    intro z A x1 hw
    obtain ⟨P2, hP2⟩ : ∃ P : (Nat → Nat → Int) → (Nat → Nat → Int) → Int → Prop, ∀ (z : Nat → Nat → Int) (A : Nat → Nat → Int) (x1 : Int), P z A x1 ↔ (∀ (H : Heap) (locs : List Loc) (ls : Array Slot), va_P D vwCl (cw_w C L K z r A) H → va_D Ad (cw_w C L K z r A) → va_S Ad s.heap H locs → lv_has ls 3 [(0, .ref y0), (1, .int (hz_i x1))] → W p l e (headSpec wsX8_clear ({ frames := 1, cells := 0, slots := 0, locals := 25 } : Room)).room s m (List.toArray [.ref y0]) below meth c H locs 0 0 QQ (F0 m 2 ls [])) := ⟨fun (z : Nat → Nat → Int) (A : Nat → Nat → Int) (x1 : Int) => ∀ (H : Heap) (locs : List Loc) (ls : Array Slot), va_P D vwCl (cw_w C L K z r A) H → va_D Ad (cw_w C L K z r A) → va_S Ad s.heap H locs → lv_has ls 3 [(0, .ref y0), (1, .int (hz_i x1))] → W p l e (headSpec wsX8_clear ({ frames := 1, cells := 0, slots := 0, locals := 25 } : Room)).room s m (List.toArray [.ref y0]) below meth c H locs 0 0 QQ (F0 m 2 ls []), fun _ _ _ => Iff.rfl⟩
    refine (hP2 z A x1).mp (hw P2 ?_)
    intro z A x1 hw
    refine (hP2 z A x1).mpr ?_
    intro H locs ls hP hD hS hl
    have L12 : ∀ (z : Nat → Nat → Int) (A : Nat → Nat → Int) (x1 : Int) (x2 : Int), wp_c8_clear_12 L K z r A y0 x1 x2 P2 Q → ∀ (H : Heap) (locs : List Loc) (ls : Array Slot), va_P D vwCl (cw_w C L K z r A) H → va_D Ad (cw_w C L K z r A) → va_S Ad s.heap H locs → lv_has ls 3 [(0, .ref y0), (1, .int (hz_i x1)), (2, .int (hz_i x2))] → W p l e (headSpec wsX8_clear ({ frames := 1, cells := 0, slots := 0, locals := 25 } : Room)).room s m (List.toArray [.ref y0]) below meth c H locs 0 0 QQ (F0 m 12 ls []) := by
      intro z A x1 x2 hw
      obtain ⟨P12, hP12⟩ : ∃ P : (Nat → Nat → Int) → (Nat → Nat → Int) → Int → Prop, ∀ (z : Nat → Nat → Int) (A : Nat → Nat → Int) (x2 : Int), P z A x2 ↔ (∀ (H : Heap) (locs : List Loc) (ls : Array Slot), va_P D vwCl (cw_w C L K z r A) H → va_D Ad (cw_w C L K z r A) → va_S Ad s.heap H locs → lv_has ls 3 [(0, .ref y0), (1, .int (hz_i x1)), (2, .int (hz_i x2))] → W p l e (headSpec wsX8_clear ({ frames := 1, cells := 0, slots := 0, locals := 25 } : Room)).room s m (List.toArray [.ref y0]) below meth c H locs 0 0 QQ (F0 m 12 ls [])) := ⟨fun (z : Nat → Nat → Int) (A : Nat → Nat → Int) (x2 : Int) => ∀ (H : Heap) (locs : List Loc) (ls : Array Slot), va_P D vwCl (cw_w C L K z r A) H → va_D Ad (cw_w C L K z r A) → va_S Ad s.heap H locs → lv_has ls 3 [(0, .ref y0), (1, .int (hz_i x1)), (2, .int (hz_i x2))] → W p l e (headSpec wsX8_clear ({ frames := 1, cells := 0, slots := 0, locals := 25 } : Room)).room s m (List.toArray [.ref y0]) below meth c H locs 0 0 QQ (F0 m 12 ls []), fun _ _ _ => Iff.rfl⟩
      refine (hP12 z A x2).mp (hw P12 ?_)
      intro z A x2 hw
      refine (hP12 z A x2).mpr ?_
      intro H locs ls hP hD hS hl
      refine lv_iload_n hx hb dX8_clear_12 rfl (lv_at hl 2 rfl) ?_
      refine lv_aload_n hx hb dX8_clear_13 rfl (lv_at hl 0 rfl) ?_
      obtain ⟨hO_15, hw⟩ := hw
      refine cw_get (ci := 8) (v := .int (hz_i (z y0 5))) hx hb hts hin8 hown hK hP hO_15.1 hO_15.2 rfl 5 (by decide) (hts (.fieldLink RX8 32 "HiddenMoves$Solver" "columns" "I") (List.mem_cons_of_mem _ (List.mem_append_left _ (List.mem_append_left _ (List.mem_of_getElem? (i := 1) rfl))))) (fun _ h9 => h9) rfl dX8_clear_14 ?_
      obtain ⟨h9a, hw⟩ := hw
      obtain ⟨h9b, hw⟩ := hw
      refine hz_icmp_gt (tgt := 36) hx hb dX8_clear_17 (by decide) h9a h9b (fun c_16 => ?_) (fun c_16 => ?_)
      · have hw := hw.1 c_16
        obtain ⟨x1_17, hx1_17⟩ : ∃ y : Int, y = x1 + 1 := ⟨_, rfl⟩
        have hw := hw x1_17 hx1_17
        refine lv_iinc (v := hz_i x1_17) (lv' := [(1, .int (hz_i x1_17)), (0, .ref y0), (2, .int (hz_i x2))]) hx hb dX8_clear_36 hl (k := 1) rfl (by rw [hx1_17]; exact hz_i_add _ _) (by decide) rfl (fun ls hl => ?_)
        refine lv_goto (tgt := 2) hx hb dX8_clear_39 (by decide) ?_
        exact (hP2 z A x1_17).mp hw H locs ls hP hD hS (lv_sub hl [1, 0] rfl)
      · have hw := hw.2 c_16
        refine lv_aload_n hx hb dX8_clear_20 rfl (lv_at hl 0 rfl) ?_
        refine lv_iload_n hx hb dX8_clear_21 rfl (lv_at hl 1 rfl) ?_
        refine lv_iload_n hx hb dX8_clear_22 rfl (lv_at hl 2 rfl) ?_
        have hFc := cw_free hD hS hA
        obtain ⟨q9, hq9⟩ := cw_at (C := C) (z := z) (r := r) (A := A) hO_15.1 hO_15.2
        refine va_callr (va_runV (As := [.int (hz_i x1), .int (hz_i x2)]) (rest := []) ⟨hx, hb, hml, hown, hts⟩ (k_c8_cell l D _ C L K z r A y0 x1 x2 _ hw) (cwV 2 hts gX8_clear_X8_cell rfl rfl rfl (by decide +kernel) ⟨Nat.le_of_ble_eq_true rfl, Nat.le_of_ble_eq_true rfl⟩) ⟨hm_blind, va_recv hK hP (ci := 8) (q0 := q9) rfl hq9, hm_pre hP hK hD hE⟩ rfl rfl hl.1 rfl (lv_room (Nat.le_of_ble_eq_true rfl)) dX8_clear_23 ⟨Nat.le_of_ble_eq_true rfl, Nat.le_of_ble_eq_true rfl⟩) hS (fun q _ h => hFc q h) hFc (fun u ra t H1 locs ht hvm hw hB hz1 hk1 hS => ?_)
        obtain ⟨rv_18, _, _, _⟩ := u
        obtain ⟨hra, hP, hK1, hD1⟩ := hB
        have hra := hra.symm
        subst hra
        rw [ht] at hP
        have hD := hD1.weaken (fun k q _ h => hFc q.1 h)
        have hP : va_P D vwCl (cw_w C L K z r A) H1 := hP
        have hD : va_D Ad (cw_w C L K z r A) := hD
        generalize H1 = H at hP hS ⊢
        refine W.eq (g2 := F0 m 26 ls [.ref rv_18]) rfl ?_
        refine lv_lconst (v := hz_l 0) hx hb dX8_clear_26 (by decide +kernel) ?_
        obtain ⟨hO_22, hw⟩ := hw
        have hFc := cw_free hD hS hA
        obtain ⟨q9, hq9⟩ := cw_at (C := C) (z := z) (r := r) (A := A) hO_22.1 hO_22.2
        refine va_callv (va_runV (As := [.long (hz_l 0)]) (rest := []) ⟨hx, hb, hml, hown, hts⟩ (k_c0_put l D _ C L K z r A rv_18 0 _ hw) (cwV 1 hts gX8_clear_X0_put rfl rfl rfl (by decide +kernel) ⟨Nat.le_of_ble_eq_true rfl, Nat.le_of_ble_eq_true rfl⟩) ⟨hm_blind, va_recv hK hP (ci := 0) (q0 := q9) rfl hq9, hm_pre hP hK hD hE⟩ rfl rfl hl.1 rfl (lv_room (Nat.le_of_ble_eq_true rfl)) dX8_clear_27 ⟨Nat.le_of_ble_eq_true rfl, Nat.le_of_ble_eq_true rfl⟩) hS (fun q _ h => hFc q h) hFc (fun u t H1 locs ht hvm hw hB hz1 hk1 hS => ?_)
        obtain ⟨rv_19, z_20, _, A_21⟩ := u
        obtain ⟨hP, hK1, hD1⟩ := hB
        rw [ht] at hP
        have hD := hD1.weaken (fun k q _ h => hFc q.1 h)
        have hP : va_P D vwCl (cw_w C L K z_20 r A_21) H1 := hP
        have hD : va_D Ad (cw_w C L K z_20 r A_21) := hD
        generalize H1 = H at hP hS ⊢
        refine W.eq (g2 := F0 m 30 ls []) rfl ?_
        obtain ⟨x2_23, hx2_23⟩ : ∃ y : Int, y = x2 + 1 := ⟨_, rfl⟩
        have hw := hw x2_23 hx2_23
        refine lv_iinc (v := hz_i x2_23) (lv' := [(2, .int (hz_i x2_23)), (0, .ref y0), (1, .int (hz_i x1))]) hx hb dX8_clear_30 hl (k := 2) rfl (by rw [hx2_23]; exact hz_i_add _ _) (by decide) rfl (fun ls hl => ?_)
        refine lv_goto (tgt := 12) hx hb dX8_clear_33 (by decide) ?_
        exact (hP12 z_20 A_21 x2_23).mp hw H locs ls hP hD hS (lv_sub hl [1, 2, 0] rfl)
    refine lv_iload_n hx hb dX8_clear_2 rfl (lv_at hl 1 rfl) ?_
    refine lv_aload_n hx hb dX8_clear_3 rfl (lv_at hl 0 rfl) ?_
    obtain ⟨hO_24, hw⟩ := hw
    refine cw_get (ci := 8) (v := .int (hz_i (z y0 4))) hx hb hts hin8 hown hK hP hO_24.1 hO_24.2 rfl 4 (by decide) (hts (.fieldLink RX8 28 "HiddenMoves$Solver" "rows" "I") (List.mem_cons_of_mem _ (List.mem_append_left _ (List.mem_append_left _ (List.mem_of_getElem? (i := 0) rfl))))) (fun _ h9 => h9) rfl dX8_clear_4 ?_
    obtain ⟨h9a, hw⟩ := hw
    obtain ⟨h9b, hw⟩ := hw
    refine hz_icmp_gt (tgt := 42) hx hb dX8_clear_7 (by decide) h9a h9b (fun c_25 => ?_) (fun c_25 => ?_)
    · have hw := hw.1 c_25
      refine lv_iconst (v := hz_i 0) hx hb dX8_clear_42 (by decide +kernel) ?_
      refine lv_istore_n (lv' := [(1, .int (hz_i 0)), (0, .ref y0)]) hx hb dX8_clear_43 rfl hl (by decide) rfl (fun ls hl => ?_)
      exact L44 z A 0 hw H locs ls hP hD hS (lv_sub hl [1, 0] rfl)
    · have hw := hw.2 c_25
      refine lv_iconst (v := hz_i 0) hx hb dX8_clear_10 (by decide +kernel) ?_
      refine lv_istore_n (lv' := [(2, .int (hz_i 0)), (0, .ref y0), (1, .int (hz_i x1))]) hx hb dX8_clear_11 rfl hl (by decide) rfl (fun ls hl => ?_)
      exact L12 z A x1 0 hw H locs ls hP hD hS (lv_sub hl [1, 2, 0] rfl)
  have hP := hP0; have hD := hD0; have hS := hS0; have hl := hl0; have hw := hw0
  obtain ⟨H, hH⟩ : ∃ H : Heap, H = s.heap := ⟨_, rfl⟩
  obtain ⟨locs, hlocs⟩ : ∃ L : List Loc, L = [] := ⟨_, rfl⟩
  rw [← hH] at hP
  have hS : va_S Ad s.heap H locs := by rw [hH, hlocs]; exact hS
  refine mw_HL hH hlocs ?_
  refine lv_iconst (v := hz_i 0) hx hb dX8_clear_0 (by decide +kernel) ?_
  refine lv_istore_n (lv' := [(1, .int (hz_i 0)), (0, .ref y0)]) hx hb dX8_clear_1 rfl hl (by decide) rfl (fun ls hl => ?_)
  exact L2 z A 0 hw H locs ls hP hD hS (lv_sub hl [1, 0] rfl)

noncomputable def wp_c8_setFloors_78 (L : List Nat) (K : Nat → cw_K) (z : Nat → Nat → Int) (r : Nat → Nat → Nat) (A : Nat → Nat → Int) (y0 : Nat) (y1 : Nat) (y2 : Int) (x4 : Int) (x5 : Int) (P8 : (Nat → Nat → Int) → Int → Prop) (P27 : (Nat → Nat → Int) → Int → Prop) (Q : (Nat → Nat → Int) → Prop) : Prop := ∀ x5_1 : Int, x5_1 = x5 + 1 → P27 A x5_1
noncomputable def wp_c8_setFloors_27 (L : List Nat) (K : Nat → cw_K) (z : Nat → Nat → Int) (r : Nat → Nat → Nat) (A : Nat → Nat → Int) (y0 : Nat) (y1 : Nat) (y2 : Int) (x4 : Int) (x5 : Int) (P8 : (Nat → Nat → Int) → Int → Prop) (Q : (Nat → Nat → Int) → Prop) : Prop := ∀ P27 : (Nat → Nat → Int) → Int → Prop, (∀ (A : Nat → Nat → Int) (x5 : Int), cw_O L K 7 y1 ∧ hz_rI x5 ∧ hz_rI (z y1 0) ∧ ((z y1 0 ≤ x5 → ∀ x4_4 : Int, x4_4 = x4 + (-1) → P8 A x4_4) ∧ (¬ (z y1 0 ≤ x5) → cw_A L K 0 (r y1 4) ∧ ((0 : Int) ≤ x5 ∧ x5 < (cw_n K (r y1 4) : Int)) ∧ ∀ x6_6 : Int, x6_6 = A (r y1 4) (x5.toNat) → hz_rI x6_6 ∧ ((x6_6 = (-1) → wp_c8_setFloors_78 L K z r A y0 y1 y2 x4 x5 P8 P27 Q) ∧ (¬ (x6_6 = (-1)) → wp_c7_setOf L K z r A x6_6 (fun rv_8 => hz_rI rv_8 ∧ hz_rI x4 ∧ ((¬ rv_8 = x4 → wp_c8_setFloors_78 L K z r A y0 y1 y2 x4 x5 P8 P27 Q) ∧ (rv_8 = x4 → cw_O L K 8 y0 ∧ cw_A L K 1 (r y0 3) ∧ ((0 : Int) ≤ x4 ∧ x4 < (cw_n K (r y0 3) : Int)) ∧ ((0 : Int) ≤ x5 ∧ x5 < (cw_n K (r y0 3) : Int)) ∧ ((0 : Int) ≤ x4 ∧ x4 < (cw_n K (r y0 3) : Int)) ∧ ∀ A_12 : Nat → Nat → Int, A_12 = hz_s A (r y0 3) x4 ((A (r y0 3) (x4.toNat)) + (A (r y0 3) (x5.toNat))) → wp_c8_setFloors_78 L K z r A_12 y0 y1 y2 x4 x5 P8 P27 Q))))))) → P27 A x5) → P27 A x5
noncomputable def wp_c8_setFloors_8 (L : List Nat) (K : Nat → cw_K) (z : Nat → Nat → Int) (r : Nat → Nat → Nat) (A : Nat → Nat → Int) (y0 : Nat) (y1 : Nat) (y2 : Int) (x4 : Int) (Q : (Nat → Nat → Int) → Prop) : Prop := ∀ P8 : (Nat → Nat → Int) → Int → Prop, (∀ (A : Nat → Nat → Int) (x4 : Int), hz_rI x4 ∧ ((x4 < 0 → Q A) ∧ (¬ (x4 < 0) → cw_O L K 8 y0 ∧ cw_A L K 1 (r y0 3) ∧ ((0 : Int) ≤ x4 ∧ x4 < (cw_n K (r y0 3) : Int)) ∧ ∀ A_16 : Nat → Nat → Int, A_16 = hz_s A (r y0 3) x4 y2 → ∀ x5_17 : Int, x5_17 = x4 + 1 → wp_c8_setFloors_27 L K z r A_16 y0 y1 y2 x4 x5_17 P8 Q)) → P8 A x4) → P8 A x4
noncomputable def wp_c8_setFloors (L : List Nat) (K : Nat → cw_K) (z : Nat → Nat → Int) (r : Nat → Nat → Nat) (A : Nat → Nat → Int) (y0 : Nat) (y1 : Nat) (y2 : Int) (Q : (Nat → Nat → Int) → Prop) : Prop := cw_O L K 7 y1 ∧ ∀ x4_19 : Int, x4_19 = (z y1 0) - 1 → wp_c8_setFloors_8 L K z r A y0 y1 y2 x4_19  Q
set_option maxHeartbeats 4000000 in
set_option maxRecDepth 100000 in
theorem k_c8_setFloors (l : Launch) (D : va_G) (sz : Nat) (C : Nat → ClassId) (L : List Nat) (K : Nat → cw_K) (z : Nat → Nat → Int) (r : Nat → Nat → Nat) (A : Nat → Nat → Int) (y0 : Nat) (y1 : Nat) (y2 : Int) (Q : (Nat → Nat → Int) → Prop) (hw : wp_c8_setFloors L K z r A y0 y1 y2 Q) : Met l yX8_setFloors wsX8_setFloors ({ frames := 1, cells := 0, slots := 0, locals := 20 } : Room) (va_Pc [.ref y0, .ref y1, .long (hz_l y2)] (hm_P D (cw_w C L K z r A) (cw_t C) sz)) (va_Qv (S := Int × (Nat → Nat → Int) × (Nat → Nat → Nat) × (Nat → Nat → Int)) (fun u => Q u.2.2.2) (fun u t => hm_B D (va_A (cw_w C L K z r A) sz) (cw_w C L K z r u.2.2.2) (cw_t C) t) (va_A (cw_w C L K z r A) sz)) 0 0 (va_A (cw_w C L K z r A) sz) := by
  refine Met.ofW (cc := cX8_setFloors) (maxL := 7) (ret := none) (by decide) rfl ?_
  intro p e s m args below meth c s₁ B hml hv
  obtain ⟨rfl, hsz, hP, hK, hD0, hE⟩ := hv
  have hx := B.exec
  have hb := B.bytes
  have hr := B.returns
  have hts := atoms_spec (ws := wsX8_setFloors) B.pre
  have hown : s.vm.findClass RX8 = some m.cls := findClass_of_methodNamed B.named
  have hlocks := B.notSynchronized
  have hin7 : ∀ w ∈ u_ws RX7 TX7 8, w ∈ wsX8_setFloors := fun w h => List.mem_cons_of_mem _ (List.mem_append_left _ (List.mem_append_right _ (h)))
  have hin8 : ∀ w ∈ u_ws RX8 TX8 13, w ∈ wsX8_setFloors := fun w h => List.mem_cons_of_mem _ (List.mem_append_right _ (h))
  subst hsz
  have hD := hD0.self (sz := s.heap.size)
  generalize hAe : va_A (cw_w C L K z r A) s.heap.size = Ad at hD ⊢
  have hA : ∀ q : Nat, s.heap.size ≤ q → Ad q := fun q h => by rw [← hAe]; exact Or.inr h
  have hS : va_S Ad s.heap s.heap [] := va_S.rf
  have hl := lv_entry ([.ref y0, .ref y1, .long (hz_l y2)]) (n := 7) (Nat.le_of_ble_eq_true rfl)
  rw [lg_entry_eq]
  generalize (lg_sl ([.ref y0, .ref y1, .long (hz_l y2)]) ++ List.replicate (7 - (lg_sl ([.ref y0, .ref y1, .long (hz_l y2)])).length) Slot.unset).toArray = ls at hl ⊢
  have hl : lv_has ls 7 [(0, .ref y0), (1, .ref y1), (2, .long (hz_l y2))] := hl
  refine mw_Q (fun QQ hQQ => ?_)
  have hP0 := hP; have hD0 := hD; have hS0 := hS; have hl0 := hl; have hw0 := hw
  clear hP hD hS hl hw
  have L8 : ∀ (A : Nat → Nat → Int) (x4 : Int), wp_c8_setFloors_8 L K z r A y0 y1 y2 x4  Q → ∀ (H : Heap) (locs : List Loc) (ls : Array Slot), va_P D vwCl (cw_w C L K z r A) H → va_D Ad (cw_w C L K z r A) → va_S Ad s.heap H locs → lv_has ls 7 [(0, .ref y0), (1, .ref y1), (2, .long (hz_l y2)), (4, .int (hz_i x4))] → W p l e (headSpec wsX8_setFloors ({ frames := 1, cells := 0, slots := 0, locals := 20 } : Room)).room s m (List.toArray [.ref y0, .ref y1, .long (hz_l y2)]) below meth c H locs 0 0 QQ (F0 m 8 ls []) := by
    intro A x4 hw
    obtain ⟨P8, hP8⟩ : ∃ P : (Nat → Nat → Int) → Int → Prop, ∀ (A : Nat → Nat → Int) (x4 : Int), P A x4 ↔ (∀ (H : Heap) (locs : List Loc) (ls : Array Slot), va_P D vwCl (cw_w C L K z r A) H → va_D Ad (cw_w C L K z r A) → va_S Ad s.heap H locs → lv_has ls 7 [(0, .ref y0), (1, .ref y1), (2, .long (hz_l y2)), (4, .int (hz_i x4))] → W p l e (headSpec wsX8_setFloors ({ frames := 1, cells := 0, slots := 0, locals := 20 } : Room)).room s m (List.toArray [.ref y0, .ref y1, .long (hz_l y2)]) below meth c H locs 0 0 QQ (F0 m 8 ls [])) := ⟨fun (A : Nat → Nat → Int) (x4 : Int) => ∀ (H : Heap) (locs : List Loc) (ls : Array Slot), va_P D vwCl (cw_w C L K z r A) H → va_D Ad (cw_w C L K z r A) → va_S Ad s.heap H locs → lv_has ls 7 [(0, .ref y0), (1, .ref y1), (2, .long (hz_l y2)), (4, .int (hz_i x4))] → W p l e (headSpec wsX8_setFloors ({ frames := 1, cells := 0, slots := 0, locals := 20 } : Room)).room s m (List.toArray [.ref y0, .ref y1, .long (hz_l y2)]) below meth c H locs 0 0 QQ (F0 m 8 ls []), fun _ _ => Iff.rfl⟩
    refine (hP8 A x4).mp (hw P8 ?_)
    intro A x4 hw
    refine (hP8 A x4).mpr ?_
    intro H locs ls hP hD hS hl
    have L27 : ∀ (A : Nat → Nat → Int) (x4 : Int) (x5 : Int), wp_c8_setFloors_27 L K z r A y0 y1 y2 x4 x5 P8 Q → ∀ (H : Heap) (locs : List Loc) (ls : Array Slot), va_P D vwCl (cw_w C L K z r A) H → va_D Ad (cw_w C L K z r A) → va_S Ad s.heap H locs → lv_has ls 7 [(0, .ref y0), (1, .ref y1), (2, .long (hz_l y2)), (4, .int (hz_i x4)), (5, .int (hz_i x5))] → W p l e (headSpec wsX8_setFloors ({ frames := 1, cells := 0, slots := 0, locals := 20 } : Room)).room s m (List.toArray [.ref y0, .ref y1, .long (hz_l y2)]) below meth c H locs 0 0 QQ (F0 m 27 ls []) := by
      intro A x4 x5 hw
      obtain ⟨P27, hP27⟩ : ∃ P : (Nat → Nat → Int) → Int → Prop, ∀ (A : Nat → Nat → Int) (x5 : Int), P A x5 ↔ (∀ (H : Heap) (locs : List Loc) (ls : Array Slot), va_P D vwCl (cw_w C L K z r A) H → va_D Ad (cw_w C L K z r A) → va_S Ad s.heap H locs → lv_has ls 7 [(0, .ref y0), (1, .ref y1), (2, .long (hz_l y2)), (4, .int (hz_i x4)), (5, .int (hz_i x5))] → W p l e (headSpec wsX8_setFloors ({ frames := 1, cells := 0, slots := 0, locals := 20 } : Room)).room s m (List.toArray [.ref y0, .ref y1, .long (hz_l y2)]) below meth c H locs 0 0 QQ (F0 m 27 ls [])) := ⟨fun (A : Nat → Nat → Int) (x5 : Int) => ∀ (H : Heap) (locs : List Loc) (ls : Array Slot), va_P D vwCl (cw_w C L K z r A) H → va_D Ad (cw_w C L K z r A) → va_S Ad s.heap H locs → lv_has ls 7 [(0, .ref y0), (1, .ref y1), (2, .long (hz_l y2)), (4, .int (hz_i x4)), (5, .int (hz_i x5))] → W p l e (headSpec wsX8_setFloors ({ frames := 1, cells := 0, slots := 0, locals := 20 } : Room)).room s m (List.toArray [.ref y0, .ref y1, .long (hz_l y2)]) below meth c H locs 0 0 QQ (F0 m 27 ls []), fun _ _ => Iff.rfl⟩
      refine (hP27 A x5).mp (hw P27 ?_)
      intro A x5 hw
      refine (hP27 A x5).mpr ?_
      intro H locs ls hP hD hS hl
      have L78 : ∀ (A : Nat → Nat → Int) (x5 : Int), wp_c8_setFloors_78 L K z r A y0 y1 y2 x4 x5 P8 P27 Q → ∀ (H : Heap) (locs : List Loc) (ls : Array Slot), va_P D vwCl (cw_w C L K z r A) H → va_D Ad (cw_w C L K z r A) → va_S Ad s.heap H locs → lv_has ls 7 [(0, .ref y0), (1, .ref y1), (2, .long (hz_l y2)), (4, .int (hz_i x4)), (5, .int (hz_i x5))] → W p l e (headSpec wsX8_setFloors ({ frames := 1, cells := 0, slots := 0, locals := 20 } : Room)).room s m (List.toArray [.ref y0, .ref y1, .long (hz_l y2)]) below meth c H locs 0 0 QQ (F0 m 78 ls []) := by
        intro A x5 hw H locs ls hP hD hS hl
        obtain ⟨x5_1, hx5_1⟩ : ∃ y : Int, y = x5 + 1 := ⟨_, rfl⟩
        have hw := hw x5_1 hx5_1
        refine lv_iinc (v := hz_i x5_1) (lv' := [(5, .int (hz_i x5_1)), (0, .ref y0), (1, .ref y1), (2, .long (hz_l y2)), (4, .int (hz_i x4))]) hx hb dX8_setFloors_78 hl (k := 4) rfl (by rw [hx5_1]; exact hz_i_add _ _) (by decide) rfl (fun ls hl => ?_)
        refine lv_goto (tgt := 27) hx hb dX8_setFloors_81 (by decide) ?_
        exact (hP27 A x5_1).mp hw H locs ls hP hD hS (lv_sub hl [1, 2, 3, 4, 0] rfl)
      refine lv_iload hx hb dX8_setFloors_27 (lv_at hl 4 rfl) ?_
      refine lv_aload_n hx hb dX8_setFloors_29 rfl (lv_at hl 1 rfl) ?_
      obtain ⟨hO_2, hw⟩ := hw
      refine cw_get (ci := 7) (v := .int (hz_i (z y1 0))) hx hb hts hin7 hown hK hP hO_2.1 hO_2.2 rfl 0 (by decide) (hts (.fieldLink RX8 117 "HiddenMoves$Side" "sets" "I") (List.mem_cons_of_mem _ (List.mem_append_left _ (List.mem_append_left _ (List.mem_of_getElem? (i := 0) rfl))))) (fun _ h9 => h9) rfl dX8_setFloors_30 ?_
      obtain ⟨h9a, hw⟩ := hw
      obtain ⟨h9b, hw⟩ := hw
      refine hz_icmp_ge (tgt := 84) hx hb dX8_setFloors_33 (by decide) h9a h9b (fun c_3 => ?_) (fun c_3 => ?_)
      · have hw := hw.1 c_3
        obtain ⟨x4_4, hx4_4⟩ : ∃ y : Int, y = x4 + (-1) := ⟨_, rfl⟩
        have hw := hw x4_4 hx4_4
        refine lv_iinc (v := hz_i x4_4) (lv' := [(4, .int (hz_i x4_4)), (0, .ref y0), (1, .ref y1), (2, .long (hz_l y2)), (5, .int (hz_i x5))]) hx hb dX8_setFloors_84 hl (k := 3) rfl (by rw [hx4_4]; exact hz_i_add _ _) (by decide) rfl (fun ls hl => ?_)
        refine lv_goto (tgt := 8) hx hb dX8_setFloors_87 (by decide) ?_
        exact (hP8 A x4_4).mp hw H locs ls hP hD hS (lv_sub hl [1, 2, 3, 0] rfl)
      · have hw := hw.2 c_3
        refine lv_aload_n hx hb dX8_setFloors_36 rfl (lv_at hl 1 rfl) ?_
        refine cw_get (ci := 7) (v := .ref (r y1 4)) hx hb hts hin7 hown hK hP hO_2.1 hO_2.2 rfl 4 (by decide) (hts (.fieldLink RX8 142 "HiddenMoves$Side" "deeds" "[I") (List.mem_cons_of_mem _ (List.mem_append_left _ (List.mem_append_left _ (List.mem_of_getElem? (i := 2) rfl))))) (fun _ h9 => h9) rfl dX8_setFloors_37 ?_
        refine lv_iload hx hb dX8_setFloors_40 (lv_at hl 4 rfl) ?_
        obtain ⟨hO_5, hw⟩ := hw
        obtain ⟨h9i, hw⟩ := hw
        refine cw_ild hx hb hK hP hO_5.1 hO_5.2.2 h9i hO_5.2.1 dX8_setFloors_42 ?_
        refine hz_topi (fun x6_6 hx6_6 => ?_)
        have hw := hw x6_6 hx6_6
        refine lv_istore (lv' := [(6, .int (hz_i x6_6)), (0, .ref y0), (1, .ref y1), (2, .long (hz_l y2)), (4, .int (hz_i x4)), (5, .int (hz_i x5))]) hx hb dX8_setFloors_43 hl (by decide) rfl (fun ls hl => ?_)
        refine lv_iload hx hb dX8_setFloors_45 (lv_at hl 0 rfl) ?_
        refine lv_iconst (v := hz_i (-1)) hx hb dX8_setFloors_47 (by decide +kernel) ?_
        obtain ⟨h9a, hw⟩ := hw
        refine hz_icmp_eq (tgt := 78) hx hb dX8_setFloors_48 (by decide) h9a ⟨by decide, by decide⟩ (fun c_7 => ?_) (fun c_7 => ?_)
        · have hw := hw.1 c_7
          exact L78 A x5 hw H locs ls hP hD hS (lv_sub hl [1, 2, 3, 4, 5] rfl)
        · have hw := hw.2 c_7
          refine lv_iload hx hb dX8_setFloors_51 (lv_at hl 0 rfl) ?_
          have hFc := cw_free hD hS hA
          refine va_calli (va_runS (As := [.int (hz_i x6_6)]) (rest := []) ⟨hx, hb, hml, hown, hts⟩ (k_c7_setOf l D _ C L K z r A x6_6 _ hw) (va_cwS 1 hts gX8_setFloors_X7_setOf rfl rfl rfl (by decide +kernel) ⟨Nat.le_of_ble_eq_true rfl, Nat.le_of_ble_eq_true rfl⟩) ⟨hm_blind, hm_pre hP hK hD hE⟩ rfl rfl hl.1 rfl (lv_room (Nat.le_of_ble_eq_true rfl)) dX8_setFloors_53 ⟨Nat.le_of_ble_eq_true rfl, Nat.le_of_ble_eq_true rfl⟩) hS (fun q _ h => hFc q h) hFc (fun rv u t H1 locs ht hvm hw hB hz1 hk1 hS => ?_)
          obtain ⟨rv_8, _, _, _⟩ := u
          obtain ⟨hP, hK1, hD1⟩ := hB
          rw [ht] at hP
          obtain ⟨hrv, hw⟩ := hw
          subst hrv
          have hD := hD1.weaken (fun k q _ h => hFc q.1 h)
          have hP : va_P D vwCl (cw_w C L K z r A) H1 := hP
          have hD : va_D Ad (cw_w C L K z r A) := hD
          generalize H1 = H at hP hS ⊢
          refine W.eq (g2 := F0 m 56 ls [.int (hz_i rv_8)]) rfl ?_
          refine lv_iload hx hb dX8_setFloors_56 (lv_at hl 4 rfl) ?_
          obtain ⟨h9a, hw⟩ := hw
          obtain ⟨h9b, hw⟩ := hw
          refine hz_icmp_ne (tgt := 78) hx hb dX8_setFloors_58 (by decide) h9a h9b (fun c_9 => ?_) (fun c_9 => ?_)
          · have hw := hw.1 c_9
            exact L78 A x5 hw H locs ls hP hD hS (lv_sub hl [1, 2, 3, 4, 5] rfl)
          · have hw := hw.2 c_9
            refine lv_aload_n hx hb dX8_setFloors_61 rfl (lv_at hl 1 rfl) ?_
            obtain ⟨hO_10, hw⟩ := hw
            refine cw_get (ci := 8) (v := .ref (r y0 3)) hx hb hts hin8 hown hK hP hO_10.1 hO_10.2 rfl 3 (by decide) (hts (.fieldLink RX8 24 "HiddenMoves$Solver" "floors" "[J") (List.mem_cons_of_mem _ (List.mem_append_left _ (List.mem_append_left _ (List.mem_of_getElem? (i := 1) rfl))))) (fun _ h9 => h9) rfl dX8_setFloors_62 ?_
            refine lv_iload hx hb dX8_setFloors_65 (lv_at hl 4 rfl) ?_
            refine lv_dup2_11 hx hb dX8_setFloors_67 rfl rfl ?_
            obtain ⟨hO_11, hw⟩ := hw
            obtain ⟨h9i, hw⟩ := hw
            refine cw_lld hx hb hK hP hO_11.1 hO_11.2.2 h9i hO_11.2.1 dX8_setFloors_68 ?_
            refine lv_aload_n hx hb dX8_setFloors_69 rfl (lv_at hl 1 rfl) ?_
            refine cw_get (ci := 8) (v := .ref (r y0 3)) hx hb hts hin8 hown hK hP hO_10.1 hO_10.2 rfl 3 (by decide) (hts (.fieldLink RX8 24 "HiddenMoves$Solver" "floors" "[J") (List.mem_cons_of_mem _ (List.mem_append_left _ (List.mem_append_left _ (List.mem_of_getElem? (i := 1) rfl))))) (fun _ h9 => h9) rfl dX8_setFloors_70 ?_
            refine lv_iload hx hb dX8_setFloors_73 (lv_at hl 5 rfl) ?_
            obtain ⟨h9i, hw⟩ := hw
            refine cw_lld hx hb hK hP hO_11.1 hO_11.2.2 h9i hO_11.2.1 dX8_setFloors_75 ?_
            refine hz_ladd hx hb dX8_setFloors_76 ?_
            obtain ⟨h9i, hw⟩ := hw
            refine cw_lst (v := (A (r y0 3) (x4.toNat)) + (A (r y0 3) (x5.toNat))) hx hb hK hP hD hS hO_11.1 hO_11.2.2 h9i hO_11.2.1 dX8_setFloors_77 (fun H locs hP hD hS => ?_)
            obtain ⟨A_12, hA_12⟩ : ∃ y : Nat → Nat → Int, y = hz_s A (r y0 3) x4 ((A (r y0 3) (x4.toNat)) + (A (r y0 3) (x5.toNat))) := ⟨_, rfl⟩
            rw [← hA_12] at hP hD
            have hw := hw A_12 hA_12
            exact L78 A_12 x5 hw H locs ls hP hD hS (lv_sub hl [1, 2, 3, 4, 5] rfl)
    refine lv_iload hx hb dX8_setFloors_8 (lv_at hl 3 rfl) ?_
    obtain ⟨h9a, hw⟩ := hw
    refine hz_if_lt (tgt := 90) hx hb dX8_setFloors_10 (by decide) h9a (fun c_13 => ?_) (fun c_13 => ?_)
    · have hw := hw.1 c_13
      subst hQQ
      subst hAe
      exact W.vret hx hb hr (fun t ht hW => ⟨⟨(0, z, r, A), rfl, hw, by rw [ht]; exact hP, va_K.moved hW.alike hK, hD⟩, hS.F ht⟩) hS.2.2 dX8_setFloors_90
    · have hw := hw.2 c_13
      refine lv_aload_n hx hb dX8_setFloors_13 rfl (lv_at hl 0 rfl) ?_
      obtain ⟨hO_14, hw⟩ := hw
      refine cw_get (ci := 8) (v := .ref (r y0 3)) hx hb hts hin8 hown hK hP hO_14.1 hO_14.2 rfl 3 (by decide) (hts (.fieldLink RX8 24 "HiddenMoves$Solver" "floors" "[J") (List.mem_cons_of_mem _ (List.mem_append_left _ (List.mem_append_left _ (List.mem_of_getElem? (i := 1) rfl))))) (fun _ h9 => h9) rfl dX8_setFloors_14 ?_
      refine lv_iload hx hb dX8_setFloors_17 (lv_at hl 3 rfl) ?_
      refine lv_lload_n hx hb dX8_setFloors_19 rfl (lv_at hl 2 rfl) ?_
      obtain ⟨hO_15, hw⟩ := hw
      obtain ⟨h9i, hw⟩ := hw
      refine cw_lst (v := y2) hx hb hK hP hD hS hO_15.1 hO_15.2.2 h9i hO_15.2.1 dX8_setFloors_20 (fun H locs hP hD hS => ?_)
      obtain ⟨A_16, hA_16⟩ : ∃ y : Nat → Nat → Int, y = hz_s A (r y0 3) x4 y2 := ⟨_, rfl⟩
      rw [← hA_16] at hP hD
      have hw := hw A_16 hA_16
      refine lv_iload hx hb dX8_setFloors_21 (lv_at hl 3 rfl) ?_
      refine lv_iconst (v := hz_i 1) hx hb dX8_setFloors_23 (by decide +kernel) ?_
      refine hz_iadd hx hb dX8_setFloors_24 ?_
      refine hz_topi (fun x5_17 hx5_17 => ?_)
      have hw := hw x5_17 hx5_17
      refine lv_istore (lv' := [(5, .int (hz_i x5_17)), (0, .ref y0), (1, .ref y1), (2, .long (hz_l y2)), (4, .int (hz_i x4))]) hx hb dX8_setFloors_25 hl (by decide) rfl (fun ls hl => ?_)
      exact L27 A_16 x4 x5_17 hw H locs ls hP hD hS (lv_sub hl [1, 2, 3, 4, 0] rfl)
  have hP := hP0; have hD := hD0; have hS := hS0; have hl := hl0; have hw := hw0
  obtain ⟨H, hH⟩ : ∃ H : Heap, H = s.heap := ⟨_, rfl⟩
  obtain ⟨locs, hlocs⟩ : ∃ L : List Loc, L = [] := ⟨_, rfl⟩
  rw [← hH] at hP
  have hS : va_S Ad s.heap H locs := by rw [hH, hlocs]; exact hS
  refine mw_HL hH hlocs ?_
  refine lv_aload_n hx hb dX8_setFloors_0 rfl (lv_at hl 1 rfl) ?_
  obtain ⟨hO_18, hw⟩ := hw
  refine cw_get (ci := 7) (v := .int (hz_i (z y1 0))) hx hb hts hin7 hown hK hP hO_18.1 hO_18.2 rfl 0 (by decide) (hts (.fieldLink RX8 117 "HiddenMoves$Side" "sets" "I") (List.mem_cons_of_mem _ (List.mem_append_left _ (List.mem_append_left _ (List.mem_of_getElem? (i := 0) rfl))))) (fun _ h9 => h9) rfl dX8_setFloors_1 ?_
  refine lv_iconst (v := hz_i 1) hx hb dX8_setFloors_4 (by decide +kernel) ?_
  refine hz_isub hx hb dX8_setFloors_5 ?_
  refine hz_topi (fun x4_19 hx4_19 => ?_)
  have hw := hw x4_19 hx4_19
  refine lv_istore (lv' := [(4, .int (hz_i x4_19)), (0, .ref y0), (1, .ref y1), (2, .long (hz_l y2))]) hx hb dX8_setFloors_6 hl (by decide) rfl (fun ls hl => ?_)
  exact L8 A x4_19 hw H locs ls hP hD hS (lv_sub hl [1, 2, 3, 0] rfl)

-- 17.c09
noncomputable def wp_c8_setUpLineOfB_147 (L : List Nat) (K : Nat → cw_K) (z : Nat → Nat → Int) (r : Nat → Nat → Nat) (A : Nat → Nat → Int) (y0 : Nat) (y3 : Int) (x4 : Nat) (x5 : Int) (x6 : Int) (x8 : Int) (P92 : (Nat → Nat → Int) → (Nat → Nat → Int) → Int → Int → Prop) (Q : (Nat → Nat → Int) → (Nat → Nat → Int) → Prop) : Prop := ∀ x8_1 : Int, x8_1 = x8 + 1 → P92 z A x6 x8_1
noncomputable def wp_c8_setUpLineOfB_92 (L : List Nat) (K : Nat → cw_K) (z : Nat → Nat → Int) (r : Nat → Nat → Nat) (A : Nat → Nat → Int) (y0 : Nat) (y3 : Int) (x4 : Nat) (x5 : Int) (x6 : Int) (x8 : Int) (Q : (Nat → Nat → Int) → (Nat → Nat → Int) → Prop) : Prop := ∀ P92 : (Nat → Nat → Int) → (Nat → Nat → Int) → Int → Int → Prop, (∀ (z : Nat → Nat → Int) (A : Nat → Nat → Int) (x6 : Int) (x8 : Int), cw_O L K 7 x4 ∧ hz_rI x8 ∧ hz_rI (z x4 0) ∧ ((z x4 0 ≤ x8 → cw_O L K 8 y0 ∧ wp_c8_cell L K z r A y0 x5 (z y0 5) (fun rv_5 => cw_O L K 0 rv_5 ∧ wp_c0_put L K z r A rv_5 x6 (fun z_7 A_8 => Q z_7 A_8))) ∧ (¬ (z x4 0 ≤ x8) → cw_A L K 0 (r x4 7) ∧ ((0 : Int) ≤ x8 ∧ x8 < (cw_n K (r x4 7) : Int)) ∧ hz_rI (A (r x4 7) (x8.toNat)) ∧ hz_rI y3 ∧ ((¬ A (r x4 7) (x8.toNat) = y3 → wp_c8_setUpLineOfB_147 L K z r A y0 y3 x4 x5 x6 x8 P92 Q) ∧ (A (r x4 7) (x8.toNat) = y3 → cw_O L K 8 y0 ∧ wp_c8_cell L K z r A y0 x5 (((z y0 6) - 1) + x8) (fun rv_13 => cw_O L K 0 rv_13 ∧ wp_c0_put L K z r A rv_13 (-1) (fun z_15 A_16 => cw_A L K 1 (r y0 3) ∧ ((0 : Int) ≤ x8 ∧ x8 < (cw_n K (r y0 3) : Int)) ∧ ∀ x6_19 : Int, x6_19 = x6 - (A_16 (r y0 3) (x8.toNat)) → wp_c8_setUpLineOfB_147 L K z_15 r A_16 y0 y3 x4 x5 x6_19 x8 P92 Q)))))) → P92 z A x6 x8) → P92 z A x6 x8
noncomputable def wp_c8_setUpLineOfB_33 (L : List Nat) (K : Nat → cw_K) (z : Nat → Nat → Int) (r : Nat → Nat → Nat) (A : Nat → Nat → Int) (y0 : Nat) (y1 : Nat) (y2 : Int) (y3 : Int) (x4 : Nat) (x5 : Int) (x6 : Int) (x8 : Int) (Q : (Nat → Nat → Int) → (Nat → Nat → Int) → Prop) : Prop := ∀ P33 : (Nat → Nat → Int) → (Nat → Nat → Int) → Int → Prop, (∀ (z : Nat → Nat → Int) (A : Nat → Nat → Int) (x8 : Int), cw_O L K 8 y0 ∧ hz_rI x8 ∧ hz_rI (z y0 6) ∧ ((z y0 6 ≤ x8 → wp_c8_cell L K z r A y0 x5 (((z y0 6) - 1) + y2) (fun rv_22 => cw_O L K 0 rv_22 ∧ wp_c0_put L K z r A rv_22 1 (fun z_24 A_25 => wp_c8_setUpLineOfB_92 L K z_24 r A_25 y0 y3 x4 x5 x6 0  Q))) ∧ (¬ (z y0 6 ≤ x8) → wp_c8_cell L K z r A y0 x5 (x8 - 1) (fun rv_27 => cw_O L K 2 y1 ∧ cw_G L K 10 (r y1 3) ∧ ((0 : Int) ≤ x8 ∧ x8 < (cw_n K (r y1 3) : Int)) ∧ cw_A L K 1 (cw_g K (r y1 3) (x8.toNat)) ∧ ((0 : Int) ≤ y3 ∧ y3 < (cw_n K (cw_g K (r y1 3) (x8.toNat)) : Int)) ∧ cw_O L K 0 rv_27 ∧ wp_c0_put L K z r A rv_27 (-(A (cw_g K (r y1 3) (x8.toNat)) (y3.toNat))) (fun z_32 A_33 => ∀ x8_35 : Int, x8_35 = x8 + 1 → P33 z_32 A_33 x8_35)))) → P33 z A x8) → P33 z A x8
noncomputable def wp_c8_setUpLineOfB (L : List Nat) (K : Nat → cw_K) (z : Nat → Nat → Int) (r : Nat → Nat → Nat) (A : Nat → Nat → Int) (y0 : Nat) (y1 : Nat) (y2 : Int) (y3 : Int) (Q : (Nat → Nat → Int) → (Nat → Nat → Int) → Prop) : Prop := cw_O L K 2 y1 ∧ cw_G L K 7 (r y1 1) ∧ ((0 : Int) ≤ 1 ∧ 1 < (cw_n K (r y1 1) : Int)) ∧ ∀ x5_38 : Int, x5_38 = y3 - 1 → cw_G L K 10 (r y1 3) ∧ ((0 : Int) ≤ 0 ∧ 0 < (cw_n K (r y1 3) : Int)) ∧ cw_A L K 1 (cw_g K (r y1 3) ((0 : Int).toNat)) ∧ ((0 : Int) ≤ y3 ∧ y3 < (cw_n K (cw_g K (r y1 3) ((0 : Int).toNat)) : Int)) ∧ cw_O L K 8 y0 ∧ cw_A L K 1 (r y0 3) ∧ ((0 : Int) ≤ y2 ∧ y2 < (cw_n K (r y0 3) : Int)) ∧ ∀ x6_43 : Int, x6_43 = (A (cw_g K (r y1 3) ((0 : Int).toNat)) (y3.toNat)) + (A (r y0 3) (y2.toNat)) → wp_c8_setUpLineOfB_33 L K z r A y0 y1 y2 y3 (cw_g K (r y1 1) ((1 : Int).toNat)) x5_38 x6_43 1  Q
set_option maxHeartbeats 4000000 in
set_option maxRecDepth 100000 in
theorem k_c8_setUpLineOfB (l : Launch) (D : va_G) (sz : Nat) (C : Nat → ClassId) (L : List Nat) (K : Nat → cw_K) (z : Nat → Nat → Int) (r : Nat → Nat → Nat) (A : Nat → Nat → Int) (y0 : Nat) (y1 : Nat) (y2 : Int) (y3 : Int) (Q : (Nat → Nat → Int) → (Nat → Nat → Int) → Prop) (hw : wp_c8_setUpLineOfB L K z r A y0 y1 y2 y3 Q) : Met l yX8_setUpLineOfB wsX8_setUpLineOfB ({ frames := 1, cells := 0, slots := 0, locals := 25 } : Room) (va_Pc [.ref y0, .ref y1, .int (hz_i y2), .int (hz_i y3)] (hm_P D (cw_w C L K z r A) (cw_t C) sz)) (va_Qv (S := Int × (Nat → Nat → Int) × (Nat → Nat → Nat) × (Nat → Nat → Int)) (fun u => Q u.2.1 u.2.2.2) (fun u t => hm_B D (va_A (cw_w C L K z r A) sz) (cw_w C L K u.2.1 r u.2.2.2) (cw_t C) t) (va_A (cw_w C L K z r A) sz)) 0 0 (va_A (cw_w C L K z r A) sz) := by
  refine Met.ofW (cc := cX8_setUpLineOfB) (maxL := 9) (ret := none) (by decide) rfl ?_
  intro p e s m args below meth c s₁ B hml hv
  obtain ⟨rfl, hsz, hP, hK, hD0, hE⟩ := hv
  have hx := B.exec
  have hb := B.bytes
  have hr := B.returns
  have hts := atoms_spec (ws := wsX8_setUpLineOfB) B.pre
  have hown : s.vm.findClass RX8 = some m.cls := findClass_of_methodNamed B.named
  have hlocks := B.notSynchronized
  have hin2 : ∀ w ∈ u_ws RX2 TX2 4, w ∈ wsX8_setUpLineOfB := fun w h => List.mem_cons_of_mem _ (List.mem_append_left _ (List.mem_append_left _ (List.mem_append_left _ (List.mem_append_right _ (h)))))
  have hin7 : ∀ w ∈ u_ws RX7 TX7 8, w ∈ wsX8_setUpLineOfB := fun w h => List.mem_cons_of_mem _ (List.mem_append_left _ (List.mem_append_right _ (h)))
  have hin8 : ∀ w ∈ u_ws RX8 TX8 13, w ∈ wsX8_setUpLineOfB := fun w h => List.mem_cons_of_mem _ (List.mem_append_left _ (List.mem_append_left _ (List.mem_append_right _ (h))))
  subst hsz
  have hD := hD0.self (sz := s.heap.size)
  generalize hAe : va_A (cw_w C L K z r A) s.heap.size = Ad at hD ⊢
  have hA : ∀ q : Nat, s.heap.size ≤ q → Ad q := fun q h => by rw [← hAe]; exact Or.inr h
  have hS : va_S Ad s.heap s.heap [] := va_S.rf
  have hl := lv_entry ([.ref y0, .ref y1, .int (hz_i y2), .int (hz_i y3)]) (n := 9) (Nat.le_of_ble_eq_true rfl)
  rw [lg_entry_eq]
  generalize (lg_sl ([.ref y0, .ref y1, .int (hz_i y2), .int (hz_i y3)]) ++ List.replicate (9 - (lg_sl ([.ref y0, .ref y1, .int (hz_i y2), .int (hz_i y3)])).length) Slot.unset).toArray = ls at hl ⊢
  have hl : lv_has ls 9 [(0, .ref y0), (1, .ref y1), (2, .int (hz_i y2)), (3, .int (hz_i y3))] := hl
  refine mw_Q (fun QQ hQQ => ?_)
  have hP0 := hP; have hD0 := hD; have hS0 := hS; have hl0 := hl; have hw0 := hw
  clear hP hD hS hl hw
  have L92 : ∀ (z : Nat → Nat → Int) (A : Nat → Nat → Int) (x4 : Nat) (x5 : Int) (x6 : Int) (x8 : Int), wp_c8_setUpLineOfB_92 L K z r A y0 y3 x4 x5 x6 x8  Q → ∀ (H : Heap) (locs : List Loc) (ls : Array Slot), va_P D vwCl (cw_w C L K z r A) H → va_D Ad (cw_w C L K z r A) → va_S Ad s.heap H locs → lv_has ls 9 [(0, .ref y0), (3, .int (hz_i y3)), (4, .ref x4), (5, .int (hz_i x5)), (6, .long (hz_l x6)), (8, .int (hz_i x8))] → W p l e (headSpec wsX8_setUpLineOfB ({ frames := 1, cells := 0, slots := 0, locals := 25 } : Room)).room s m (List.toArray [.ref y0, .ref y1, .int (hz_i y2), .int (hz_i y3)]) below meth c H locs 0 0 QQ (F0 m 92 ls []) := by
    intro z A x4 x5 x6 x8 hw
    obtain ⟨P92, hP92⟩ : ∃ P : (Nat → Nat → Int) → (Nat → Nat → Int) → Int → Int → Prop, ∀ (z : Nat → Nat → Int) (A : Nat → Nat → Int) (x6 : Int) (x8 : Int), P z A x6 x8 ↔ (∀ (H : Heap) (locs : List Loc) (ls : Array Slot), va_P D vwCl (cw_w C L K z r A) H → va_D Ad (cw_w C L K z r A) → va_S Ad s.heap H locs → lv_has ls 9 [(0, .ref y0), (3, .int (hz_i y3)), (4, .ref x4), (5, .int (hz_i x5)), (6, .long (hz_l x6)), (8, .int (hz_i x8))] → W p l e (headSpec wsX8_setUpLineOfB ({ frames := 1, cells := 0, slots := 0, locals := 25 } : Room)).room s m (List.toArray [.ref y0, .ref y1, .int (hz_i y2), .int (hz_i y3)]) below meth c H locs 0 0 QQ (F0 m 92 ls [])) := ⟨fun (z : Nat → Nat → Int) (A : Nat → Nat → Int) (x6 : Int) (x8 : Int) => ∀ (H : Heap) (locs : List Loc) (ls : Array Slot), va_P D vwCl (cw_w C L K z r A) H → va_D Ad (cw_w C L K z r A) → va_S Ad s.heap H locs → lv_has ls 9 [(0, .ref y0), (3, .int (hz_i y3)), (4, .ref x4), (5, .int (hz_i x5)), (6, .long (hz_l x6)), (8, .int (hz_i x8))] → W p l e (headSpec wsX8_setUpLineOfB ({ frames := 1, cells := 0, slots := 0, locals := 25 } : Room)).room s m (List.toArray [.ref y0, .ref y1, .int (hz_i y2), .int (hz_i y3)]) below meth c H locs 0 0 QQ (F0 m 92 ls []), fun _ _ _ _ => Iff.rfl⟩
    refine (hP92 z A x6 x8).mp (hw P92 ?_)
    intro z A x6 x8 hw
    refine (hP92 z A x6 x8).mpr ?_
    intro H locs ls hP hD hS hl
    have L147 : ∀ (z : Nat → Nat → Int) (A : Nat → Nat → Int) (x6 : Int) (x8 : Int), wp_c8_setUpLineOfB_147 L K z r A y0 y3 x4 x5 x6 x8 P92 Q → ∀ (H : Heap) (locs : List Loc) (ls : Array Slot), va_P D vwCl (cw_w C L K z r A) H → va_D Ad (cw_w C L K z r A) → va_S Ad s.heap H locs → lv_has ls 9 [(0, .ref y0), (3, .int (hz_i y3)), (4, .ref x4), (5, .int (hz_i x5)), (6, .long (hz_l x6)), (8, .int (hz_i x8))] → W p l e (headSpec wsX8_setUpLineOfB ({ frames := 1, cells := 0, slots := 0, locals := 25 } : Room)).room s m (List.toArray [.ref y0, .ref y1, .int (hz_i y2), .int (hz_i y3)]) below meth c H locs 0 0 QQ (F0 m 147 ls []) := by
      intro z A x6 x8 hw H locs ls hP hD hS hl
      obtain ⟨x8_1, hx8_1⟩ : ∃ y : Int, y = x8 + 1 := ⟨_, rfl⟩
      have hw := hw x8_1 hx8_1
      refine lv_iinc (v := hz_i x8_1) (lv' := [(8, .int (hz_i x8_1)), (0, .ref y0), (3, .int (hz_i y3)), (4, .ref x4), (5, .int (hz_i x5)), (6, .long (hz_l x6))]) hx hb dX8_setUpLineOfB_147 hl (k := 5) rfl (by rw [hx8_1]; exact hz_i_add _ _) (by decide) rfl (fun ls hl => ?_)
      refine lv_goto (tgt := 92) hx hb dX8_setUpLineOfB_150 (by decide) ?_
      exact (hP92 z A x6 x8_1).mp hw H locs ls hP hD hS (lv_sub hl [1, 2, 3, 4, 5, 0] rfl)
    refine lv_iload hx hb dX8_setUpLineOfB_92 (lv_at hl 5 rfl) ?_
    refine lv_aload hx hb dX8_setUpLineOfB_94 (lv_at hl 2 rfl) ?_
    obtain ⟨hO_2, hw⟩ := hw
    refine cw_get (ci := 7) (v := .int (hz_i (z x4 0))) hx hb hts hin7 hown hK hP hO_2.1 hO_2.2 rfl 0 (by decide) (hts (.fieldLink RX8 117 "HiddenMoves$Side" "sets" "I") (List.mem_cons_of_mem _ (List.mem_append_left _ (List.mem_append_left _ (List.mem_append_left _ (List.mem_append_left _ (List.mem_of_getElem? (i := 4) rfl))))))) (fun _ h9 => h9) rfl dX8_setUpLineOfB_96 ?_
    obtain ⟨h9a, hw⟩ := hw
    obtain ⟨h9b, hw⟩ := hw
    refine hz_icmp_ge (tgt := 153) hx hb dX8_setUpLineOfB_99 (by decide) h9a h9b (fun c_3 => ?_) (fun c_3 => ?_)
    · have hw := hw.1 c_3
      refine lv_aload_n hx hb dX8_setUpLineOfB_153 rfl (lv_at hl 0 rfl) ?_
      refine lv_iload hx hb dX8_setUpLineOfB_154 (lv_at hl 3 rfl) ?_
      refine lv_aload_n hx hb dX8_setUpLineOfB_156 rfl (lv_at hl 0 rfl) ?_
      obtain ⟨hO_4, hw⟩ := hw
      refine cw_get (ci := 8) (v := .int (hz_i (z y0 5))) hx hb hts hin8 hown hK hP hO_4.1 hO_4.2 rfl 5 (by decide) (hts (.fieldLink RX8 32 "HiddenMoves$Solver" "columns" "I") (List.mem_cons_of_mem _ (List.mem_append_left _ (List.mem_append_left _ (List.mem_append_left _ (List.mem_append_left _ (List.mem_of_getElem? (i := 7) rfl))))))) (fun _ h9 => h9) rfl dX8_setUpLineOfB_157 ?_
      have hFc := cw_free hD hS hA
      obtain ⟨q9, hq9⟩ := cw_at (C := C) (z := z) (r := r) (A := A) hO_4.1 hO_4.2
      refine va_callr (va_runV (As := [.int (hz_i x5), .int (hz_i (z y0 5))]) (rest := []) ⟨hx, hb, hml, hown, hts⟩ (k_c8_cell l D _ C L K z r A y0 x5 (z y0 5) _ hw) (cwV 2 hts gX8_setUpLineOfB_X8_cell rfl rfl rfl (by decide +kernel) ⟨Nat.le_of_ble_eq_true rfl, Nat.le_of_ble_eq_true rfl⟩) ⟨hm_blind, va_recv hK hP (ci := 8) (q0 := q9) rfl hq9, hm_pre hP hK hD hE⟩ rfl rfl hl.1 rfl (lv_room (Nat.le_of_ble_eq_true rfl)) dX8_setUpLineOfB_160 ⟨Nat.le_of_ble_eq_true rfl, Nat.le_of_ble_eq_true rfl⟩) hS (fun q _ h => hFc q h) hFc (fun u ra t H1 locs ht hvm hw hB hz1 hk1 hS => ?_)
      obtain ⟨rv_5, _, _, _⟩ := u
      obtain ⟨hra, hP, hK1, hD1⟩ := hB
      have hra := hra.symm
      subst hra
      rw [ht] at hP
      have hD := hD1.weaken (fun k q _ h => hFc q.1 h)
      have hP : va_P D vwCl (cw_w C L K z r A) H1 := hP
      have hD : va_D Ad (cw_w C L K z r A) := hD
      generalize H1 = H at hP hS ⊢
      refine W.eq (g2 := F0 m 163 ls [.ref rv_5]) rfl ?_
      refine lv_lload hx hb dX8_setUpLineOfB_163 (lv_at hl 4 rfl) ?_
      obtain ⟨hO_9, hw⟩ := hw
      have hFc := cw_free hD hS hA
      obtain ⟨q9, hq9⟩ := cw_at (C := C) (z := z) (r := r) (A := A) hO_9.1 hO_9.2
      refine va_callv (va_runV (As := [.long (hz_l x6)]) (rest := []) ⟨hx, hb, hml, hown, hts⟩ (k_c0_put l D _ C L K z r A rv_5 x6 _ hw) (cwV 1 hts gX8_setUpLineOfB_X0_put rfl rfl rfl (by decide +kernel) ⟨Nat.le_of_ble_eq_true rfl, Nat.le_of_ble_eq_true rfl⟩) ⟨hm_blind, va_recv hK hP (ci := 0) (q0 := q9) rfl hq9, hm_pre hP hK hD hE⟩ rfl rfl hl.1 rfl (lv_room (Nat.le_of_ble_eq_true rfl)) dX8_setUpLineOfB_165 ⟨Nat.le_of_ble_eq_true rfl, Nat.le_of_ble_eq_true rfl⟩) hS (fun q _ h => hFc q h) hFc (fun u t H1 locs ht hvm hw hB hz1 hk1 hS => ?_)
      obtain ⟨rv_6, z_7, _, A_8⟩ := u
      obtain ⟨hP, hK1, hD1⟩ := hB
      rw [ht] at hP
      have hD := hD1.weaken (fun k q _ h => hFc q.1 h)
      have hP : va_P D vwCl (cw_w C L K z_7 r A_8) H1 := hP
      have hD : va_D Ad (cw_w C L K z_7 r A_8) := hD
      generalize H1 = H at hP hS ⊢
      refine W.eq (g2 := F0 m 168 ls []) rfl ?_
      subst hQQ
      subst hAe
      exact W.vret hx hb hr (fun t ht hW => ⟨⟨(0, z_7, r, A_8), rfl, hw, by rw [ht]; exact hP, va_K.moved hW.alike hK, hD⟩, hS.F ht⟩) hS.2.2 dX8_setUpLineOfB_168
    · have hw := hw.2 c_3
      refine lv_aload hx hb dX8_setUpLineOfB_102 (lv_at hl 2 rfl) ?_
      refine cw_get (ci := 7) (v := .ref (r x4 7)) hx hb hts hin7 hown hK hP hO_2.1 hO_2.2 rfl 7 (by decide) (hts (.fieldLink RX8 162 "HiddenMoves$Side" "parentLines" "[I") (List.mem_cons_of_mem _ (List.mem_append_left _ (List.mem_append_left _ (List.mem_append_left _ (List.mem_append_left _ (List.mem_of_getElem? (i := 5) rfl))))))) (fun _ h9 => h9) rfl dX8_setUpLineOfB_104 ?_
      refine lv_iload hx hb dX8_setUpLineOfB_107 (lv_at hl 5 rfl) ?_
      obtain ⟨hO_10, hw⟩ := hw
      obtain ⟨h9i, hw⟩ := hw
      refine cw_ild hx hb hK hP hO_10.1 hO_10.2.2 h9i hO_10.2.1 dX8_setUpLineOfB_109 ?_
      refine lv_iload_n hx hb dX8_setUpLineOfB_110 rfl (lv_at hl 1 rfl) ?_
      obtain ⟨h9a, hw⟩ := hw
      obtain ⟨h9b, hw⟩ := hw
      refine hz_icmp_ne (tgt := 147) hx hb dX8_setUpLineOfB_111 (by decide) h9a h9b (fun c_11 => ?_) (fun c_11 => ?_)
      · have hw := hw.1 c_11
        exact L147 z A x6 x8 hw H locs ls hP hD hS (lv_sub hl [0, 1, 2, 3, 4, 5] rfl)
      · have hw := hw.2 c_11
        refine lv_aload_n hx hb dX8_setUpLineOfB_114 rfl (lv_at hl 0 rfl) ?_
        refine lv_iload hx hb dX8_setUpLineOfB_115 (lv_at hl 3 rfl) ?_
        refine lv_aload_n hx hb dX8_setUpLineOfB_117 rfl (lv_at hl 0 rfl) ?_
        obtain ⟨hO_12, hw⟩ := hw
        refine cw_get (ci := 8) (v := .int (hz_i (z y0 6))) hx hb hts hin8 hown hK hP hO_12.1 hO_12.2 rfl 6 (by decide) (hts (.fieldLink RX8 35 "HiddenMoves$Solver" "linesOfA" "I") (List.mem_cons_of_mem _ (List.mem_append_left _ (List.mem_append_left _ (List.mem_append_left _ (List.mem_append_left _ (List.mem_of_getElem? (i := 3) rfl))))))) (fun _ h9 => h9) rfl dX8_setUpLineOfB_118 ?_
        refine lv_iconst (v := hz_i 1) hx hb dX8_setUpLineOfB_121 (by decide +kernel) ?_
        refine hz_isub hx hb dX8_setUpLineOfB_122 ?_
        refine lv_iload hx hb dX8_setUpLineOfB_123 (lv_at hl 5 rfl) ?_
        refine hz_iadd hx hb dX8_setUpLineOfB_125 ?_
        have hFc := cw_free hD hS hA
        obtain ⟨q9, hq9⟩ := cw_at (C := C) (z := z) (r := r) (A := A) hO_12.1 hO_12.2
        refine va_callr (va_runV (As := [.int (hz_i x5), .int (hz_i (((z y0 6) - 1) + x8))]) (rest := []) ⟨hx, hb, hml, hown, hts⟩ (k_c8_cell l D _ C L K z r A y0 x5 (((z y0 6) - 1) + x8) _ hw) (cwV 2 hts gX8_setUpLineOfB_X8_cell rfl rfl rfl (by decide +kernel) ⟨Nat.le_of_ble_eq_true rfl, Nat.le_of_ble_eq_true rfl⟩) ⟨hm_blind, va_recv hK hP (ci := 8) (q0 := q9) rfl hq9, hm_pre hP hK hD hE⟩ rfl rfl hl.1 rfl (lv_room (Nat.le_of_ble_eq_true rfl)) dX8_setUpLineOfB_126 ⟨Nat.le_of_ble_eq_true rfl, Nat.le_of_ble_eq_true rfl⟩) hS (fun q _ h => hFc q h) hFc (fun u ra t H1 locs ht hvm hw hB hz1 hk1 hS => ?_)
        obtain ⟨rv_13, _, _, _⟩ := u
        obtain ⟨hra, hP, hK1, hD1⟩ := hB
        have hra := hra.symm
        subst hra
        rw [ht] at hP
        have hD := hD1.weaken (fun k q _ h => hFc q.1 h)
        have hP : va_P D vwCl (cw_w C L K z r A) H1 := hP
        have hD : va_D Ad (cw_w C L K z r A) := hD
        generalize H1 = H at hP hS ⊢
        refine W.eq (g2 := F0 m 129 ls [.ref rv_13]) rfl ?_
        refine lv_ldc2 hx hb hown (hts (.constantLong RX8 165 (-1)) (List.mem_cons_of_mem _ (List.mem_append_left _ (List.mem_append_left _ (List.mem_append_left _ (List.mem_append_left _ (List.mem_of_getElem? (i := 6) rfl))))))) dX8_setUpLineOfB_129 ?_
        refine hz_asl (b := (-1)) (by decide +kernel) ?_
        obtain ⟨hO_17, hw⟩ := hw
        have hFc := cw_free hD hS hA
        obtain ⟨q9, hq9⟩ := cw_at (C := C) (z := z) (r := r) (A := A) hO_17.1 hO_17.2
        refine va_callv (va_runV (As := [.long (hz_l (-1))]) (rest := []) ⟨hx, hb, hml, hown, hts⟩ (k_c0_put l D _ C L K z r A rv_13 (-1) _ hw) (cwV 1 hts gX8_setUpLineOfB_X0_put rfl rfl rfl (by decide +kernel) ⟨Nat.le_of_ble_eq_true rfl, Nat.le_of_ble_eq_true rfl⟩) ⟨hm_blind, va_recv hK hP (ci := 0) (q0 := q9) rfl hq9, hm_pre hP hK hD hE⟩ rfl rfl hl.1 rfl (lv_room (Nat.le_of_ble_eq_true rfl)) dX8_setUpLineOfB_132 ⟨Nat.le_of_ble_eq_true rfl, Nat.le_of_ble_eq_true rfl⟩) hS (fun q _ h => hFc q h) hFc (fun u t H1 locs ht hvm hw hB hz1 hk1 hS => ?_)
        obtain ⟨rv_14, z_15, _, A_16⟩ := u
        obtain ⟨hP, hK1, hD1⟩ := hB
        rw [ht] at hP
        have hD := hD1.weaken (fun k q _ h => hFc q.1 h)
        have hP : va_P D vwCl (cw_w C L K z_15 r A_16) H1 := hP
        have hD : va_D Ad (cw_w C L K z_15 r A_16) := hD
        generalize H1 = H at hP hS ⊢
        refine W.eq (g2 := F0 m 135 ls []) rfl ?_
        refine lv_lload hx hb dX8_setUpLineOfB_135 (lv_at hl 4 rfl) ?_
        refine lv_aload_n hx hb dX8_setUpLineOfB_137 rfl (lv_at hl 0 rfl) ?_
        refine cw_get (ci := 8) (v := .ref (r y0 3)) hx hb hts hin8 hown hK hP hO_12.1 hO_12.2 rfl 3 (by decide) (hts (.fieldLink RX8 24 "HiddenMoves$Solver" "floors" "[J") (List.mem_cons_of_mem _ (List.mem_append_left _ (List.mem_append_left _ (List.mem_append_left _ (List.mem_append_left _ (List.mem_of_getElem? (i := 2) rfl))))))) (fun _ h9 => h9) rfl dX8_setUpLineOfB_138 ?_
        refine lv_iload hx hb dX8_setUpLineOfB_141 (lv_at hl 5 rfl) ?_
        obtain ⟨hO_18, hw⟩ := hw
        obtain ⟨h9i, hw⟩ := hw
        refine cw_lld hx hb hK hP hO_18.1 hO_18.2.2 h9i hO_18.2.1 dX8_setUpLineOfB_143 ?_
        refine hz_lsub hx hb dX8_setUpLineOfB_144 ?_
        refine hz_topl (fun x6_19 hx6_19 => ?_)
        have hw := hw x6_19 hx6_19
        refine lv_lstore (lv' := [(6, .long (hz_l x6_19)), (0, .ref y0), (3, .int (hz_i y3)), (4, .ref x4), (5, .int (hz_i x5)), (8, .int (hz_i x8))]) hx hb dX8_setUpLineOfB_145 hl (by decide) rfl (fun ls hl => ?_)
        exact L147 z_15 A_16 x6_19 x8 hw H locs ls hP hD hS (lv_sub hl [1, 2, 3, 4, 0, 5] rfl)
  have L33 : ∀ (z : Nat → Nat → Int) (A : Nat → Nat → Int) (x4 : Nat) (x5 : Int) (x6 : Int) (x8 : Int), wp_c8_setUpLineOfB_33 L K z r A y0 y1 y2 y3 x4 x5 x6 x8  Q → ∀ (H : Heap) (locs : List Loc) (ls : Array Slot), va_P D vwCl (cw_w C L K z r A) H → va_D Ad (cw_w C L K z r A) → va_S Ad s.heap H locs → lv_has ls 9 [(0, .ref y0), (1, .ref y1), (2, .int (hz_i y2)), (3, .int (hz_i y3)), (4, .ref x4), (5, .int (hz_i x5)), (6, .long (hz_l x6)), (8, .int (hz_i x8))] → W p l e (headSpec wsX8_setUpLineOfB ({ frames := 1, cells := 0, slots := 0, locals := 25 } : Room)).room s m (List.toArray [.ref y0, .ref y1, .int (hz_i y2), .int (hz_i y3)]) below meth c H locs 0 0 QQ (F0 m 33 ls []) := by
    intro z A x4 x5 x6 x8 hw
    obtain ⟨P33, hP33⟩ : ∃ P : (Nat → Nat → Int) → (Nat → Nat → Int) → Int → Prop, ∀ (z : Nat → Nat → Int) (A : Nat → Nat → Int) (x8 : Int), P z A x8 ↔ (∀ (H : Heap) (locs : List Loc) (ls : Array Slot), va_P D vwCl (cw_w C L K z r A) H → va_D Ad (cw_w C L K z r A) → va_S Ad s.heap H locs → lv_has ls 9 [(0, .ref y0), (1, .ref y1), (2, .int (hz_i y2)), (3, .int (hz_i y3)), (4, .ref x4), (5, .int (hz_i x5)), (6, .long (hz_l x6)), (8, .int (hz_i x8))] → W p l e (headSpec wsX8_setUpLineOfB ({ frames := 1, cells := 0, slots := 0, locals := 25 } : Room)).room s m (List.toArray [.ref y0, .ref y1, .int (hz_i y2), .int (hz_i y3)]) below meth c H locs 0 0 QQ (F0 m 33 ls [])) := ⟨fun (z : Nat → Nat → Int) (A : Nat → Nat → Int) (x8 : Int) => ∀ (H : Heap) (locs : List Loc) (ls : Array Slot), va_P D vwCl (cw_w C L K z r A) H → va_D Ad (cw_w C L K z r A) → va_S Ad s.heap H locs → lv_has ls 9 [(0, .ref y0), (1, .ref y1), (2, .int (hz_i y2)), (3, .int (hz_i y3)), (4, .ref x4), (5, .int (hz_i x5)), (6, .long (hz_l x6)), (8, .int (hz_i x8))] → W p l e (headSpec wsX8_setUpLineOfB ({ frames := 1, cells := 0, slots := 0, locals := 25 } : Room)).room s m (List.toArray [.ref y0, .ref y1, .int (hz_i y2), .int (hz_i y3)]) below meth c H locs 0 0 QQ (F0 m 33 ls []), fun _ _ _ => Iff.rfl⟩
    refine (hP33 z A x8).mp (hw P33 ?_)
    intro z A x8 hw
    refine (hP33 z A x8).mpr ?_
    intro H locs ls hP hD hS hl
    refine lv_iload hx hb dX8_setUpLineOfB_33 (lv_at hl 7 rfl) ?_
    refine lv_aload_n hx hb dX8_setUpLineOfB_35 rfl (lv_at hl 0 rfl) ?_
    obtain ⟨hO_20, hw⟩ := hw
    refine cw_get (ci := 8) (v := .int (hz_i (z y0 6))) hx hb hts hin8 hown hK hP hO_20.1 hO_20.2 rfl 6 (by decide) (hts (.fieldLink RX8 35 "HiddenMoves$Solver" "linesOfA" "I") (List.mem_cons_of_mem _ (List.mem_append_left _ (List.mem_append_left _ (List.mem_append_left _ (List.mem_append_left _ (List.mem_of_getElem? (i := 3) rfl))))))) (fun _ h9 => h9) rfl dX8_setUpLineOfB_36 ?_
    obtain ⟨h9a, hw⟩ := hw
    obtain ⟨h9b, hw⟩ := hw
    refine hz_icmp_ge (tgt := 71) hx hb dX8_setUpLineOfB_39 (by decide) h9a h9b (fun c_21 => ?_) (fun c_21 => ?_)
    · have hw := hw.1 c_21
      refine lv_aload_n hx hb dX8_setUpLineOfB_71 rfl (lv_at hl 0 rfl) ?_
      refine lv_iload hx hb dX8_setUpLineOfB_72 (lv_at hl 5 rfl) ?_
      refine lv_aload_n hx hb dX8_setUpLineOfB_74 rfl (lv_at hl 0 rfl) ?_
      refine cw_get (ci := 8) (v := .int (hz_i (z y0 6))) hx hb hts hin8 hown hK hP hO_20.1 hO_20.2 rfl 6 (by decide) (hts (.fieldLink RX8 35 "HiddenMoves$Solver" "linesOfA" "I") (List.mem_cons_of_mem _ (List.mem_append_left _ (List.mem_append_left _ (List.mem_append_left _ (List.mem_append_left _ (List.mem_of_getElem? (i := 3) rfl))))))) (fun _ h9 => h9) rfl dX8_setUpLineOfB_75 ?_
      refine lv_iconst (v := hz_i 1) hx hb dX8_setUpLineOfB_78 (by decide +kernel) ?_
      refine hz_isub hx hb dX8_setUpLineOfB_79 ?_
      refine lv_iload_n hx hb dX8_setUpLineOfB_80 rfl (lv_at hl 2 rfl) ?_
      refine hz_iadd hx hb dX8_setUpLineOfB_81 ?_
      have hFc := cw_free hD hS hA
      obtain ⟨q9, hq9⟩ := cw_at (C := C) (z := z) (r := r) (A := A) hO_20.1 hO_20.2
      refine va_callr (va_runV (As := [.int (hz_i x5), .int (hz_i (((z y0 6) - 1) + y2))]) (rest := []) ⟨hx, hb, hml, hown, hts⟩ (k_c8_cell l D _ C L K z r A y0 x5 (((z y0 6) - 1) + y2) _ hw) (cwV 2 hts gX8_setUpLineOfB_X8_cell rfl rfl rfl (by decide +kernel) ⟨Nat.le_of_ble_eq_true rfl, Nat.le_of_ble_eq_true rfl⟩) ⟨hm_blind, va_recv hK hP (ci := 8) (q0 := q9) rfl hq9, hm_pre hP hK hD hE⟩ rfl rfl hl.1 rfl (lv_room (Nat.le_of_ble_eq_true rfl)) dX8_setUpLineOfB_82 ⟨Nat.le_of_ble_eq_true rfl, Nat.le_of_ble_eq_true rfl⟩) hS (fun q _ h => hFc q h) hFc (fun u ra t H1 locs ht hvm hw hB hz1 hk1 hS => ?_)
      obtain ⟨rv_22, _, _, _⟩ := u
      obtain ⟨hra, hP, hK1, hD1⟩ := hB
      have hra := hra.symm
      subst hra
      rw [ht] at hP
      have hD := hD1.weaken (fun k q _ h => hFc q.1 h)
      have hP : va_P D vwCl (cw_w C L K z r A) H1 := hP
      have hD : va_D Ad (cw_w C L K z r A) := hD
      generalize H1 = H at hP hS ⊢
      refine W.eq (g2 := F0 m 85 ls [.ref rv_22]) rfl ?_
      refine lv_lconst (v := hz_l 1) hx hb dX8_setUpLineOfB_85 (by decide +kernel) ?_
      obtain ⟨hO_26, hw⟩ := hw
      have hFc := cw_free hD hS hA
      obtain ⟨q9, hq9⟩ := cw_at (C := C) (z := z) (r := r) (A := A) hO_26.1 hO_26.2
      refine va_callv (va_runV (As := [.long (hz_l 1)]) (rest := []) ⟨hx, hb, hml, hown, hts⟩ (k_c0_put l D _ C L K z r A rv_22 1 _ hw) (cwV 1 hts gX8_setUpLineOfB_X0_put rfl rfl rfl (by decide +kernel) ⟨Nat.le_of_ble_eq_true rfl, Nat.le_of_ble_eq_true rfl⟩) ⟨hm_blind, va_recv hK hP (ci := 0) (q0 := q9) rfl hq9, hm_pre hP hK hD hE⟩ rfl rfl hl.1 rfl (lv_room (Nat.le_of_ble_eq_true rfl)) dX8_setUpLineOfB_86 ⟨Nat.le_of_ble_eq_true rfl, Nat.le_of_ble_eq_true rfl⟩) hS (fun q _ h => hFc q h) hFc (fun u t H1 locs ht hvm hw hB hz1 hk1 hS => ?_)
      obtain ⟨rv_23, z_24, _, A_25⟩ := u
      obtain ⟨hP, hK1, hD1⟩ := hB
      rw [ht] at hP
      have hD := hD1.weaken (fun k q _ h => hFc q.1 h)
      have hP : va_P D vwCl (cw_w C L K z_24 r A_25) H1 := hP
      have hD : va_D Ad (cw_w C L K z_24 r A_25) := hD
      generalize H1 = H at hP hS ⊢
      refine W.eq (g2 := F0 m 89 ls []) rfl ?_
      refine lv_iconst (v := hz_i 0) hx hb dX8_setUpLineOfB_89 (by decide +kernel) ?_
      refine lv_istore (lv' := [(8, .int (hz_i 0)), (0, .ref y0), (1, .ref y1), (2, .int (hz_i y2)), (3, .int (hz_i y3)), (4, .ref x4), (5, .int (hz_i x5)), (6, .long (hz_l x6))]) hx hb dX8_setUpLineOfB_90 hl (by decide) rfl (fun ls hl => ?_)
      exact L92 z_24 A_25 x4 x5 x6 0 hw H locs ls hP hD hS (lv_sub hl [1, 4, 5, 6, 7, 0] rfl)
    · have hw := hw.2 c_21
      refine lv_aload_n hx hb dX8_setUpLineOfB_42 rfl (lv_at hl 0 rfl) ?_
      refine lv_iload hx hb dX8_setUpLineOfB_43 (lv_at hl 5 rfl) ?_
      refine lv_iload hx hb dX8_setUpLineOfB_45 (lv_at hl 7 rfl) ?_
      refine lv_iconst (v := hz_i 1) hx hb dX8_setUpLineOfB_47 (by decide +kernel) ?_
      refine hz_isub hx hb dX8_setUpLineOfB_48 ?_
      have hFc := cw_free hD hS hA
      obtain ⟨q9, hq9⟩ := cw_at (C := C) (z := z) (r := r) (A := A) hO_20.1 hO_20.2
      refine va_callr (va_runV (As := [.int (hz_i x5), .int (hz_i (x8 - 1))]) (rest := []) ⟨hx, hb, hml, hown, hts⟩ (k_c8_cell l D _ C L K z r A y0 x5 (x8 - 1) _ hw) (cwV 2 hts gX8_setUpLineOfB_X8_cell rfl rfl rfl (by decide +kernel) ⟨Nat.le_of_ble_eq_true rfl, Nat.le_of_ble_eq_true rfl⟩) ⟨hm_blind, va_recv hK hP (ci := 8) (q0 := q9) rfl hq9, hm_pre hP hK hD hE⟩ rfl rfl hl.1 rfl (lv_room (Nat.le_of_ble_eq_true rfl)) dX8_setUpLineOfB_49 ⟨Nat.le_of_ble_eq_true rfl, Nat.le_of_ble_eq_true rfl⟩) hS (fun q _ h => hFc q h) hFc (fun u ra t H1 locs ht hvm hw hB hz1 hk1 hS => ?_)
      obtain ⟨rv_27, _, _, _⟩ := u
      obtain ⟨hra, hP, hK1, hD1⟩ := hB
      have hra := hra.symm
      subst hra
      rw [ht] at hP
      have hD := hD1.weaken (fun k q _ h => hFc q.1 h)
      have hP : va_P D vwCl (cw_w C L K z r A) H1 := hP
      have hD : va_D Ad (cw_w C L K z r A) := hD
      generalize H1 = H at hP hS ⊢
      refine W.eq (g2 := F0 m 52 ls [.ref rv_27]) rfl ?_
      refine lv_aload_n hx hb dX8_setUpLineOfB_52 rfl (lv_at hl 1 rfl) ?_
      obtain ⟨hO_28, hw⟩ := hw
      refine cw_get (ci := 2) (v := .ref (r y1 3)) hx hb hts hin2 hown hK hP hO_28.1 hO_28.2 rfl 3 (by decide) (hts (.fieldLink RX8 158 "HiddenMoves$Game" "weights" "[[J") (List.mem_cons_of_mem _ (List.mem_append_left _ (List.mem_append_left _ (List.mem_append_left _ (List.mem_append_left _ (List.mem_of_getElem? (i := 1) rfl))))))) (fun _ h9 => h9) rfl dX8_setUpLineOfB_53 ?_
      refine lv_iload hx hb dX8_setUpLineOfB_56 (lv_at hl 7 rfl) ?_
      obtain ⟨hO_29, hw⟩ := hw
      obtain ⟨h9i, hw⟩ := hw
      refine cw_aldJ hx hb hK hP hO_29.1 hO_29.2.2 h9i hO_29.2.1 dX8_setUpLineOfB_58 ?_
      refine lv_iload_n hx hb dX8_setUpLineOfB_59 rfl (lv_at hl 3 rfl) ?_
      obtain ⟨hO_30, hw⟩ := hw
      obtain ⟨h9i, hw⟩ := hw
      refine cw_lld hx hb hK hP hO_30.1 hO_30.2.2 h9i hO_30.2.1 dX8_setUpLineOfB_60 ?_
      refine hz_lneg hx hb dX8_setUpLineOfB_61 ?_
      obtain ⟨hO_34, hw⟩ := hw
      have hFc := cw_free hD hS hA
      obtain ⟨q9, hq9⟩ := cw_at (C := C) (z := z) (r := r) (A := A) hO_34.1 hO_34.2
      refine va_callv (va_runV (As := [.long (hz_l (-(A (cw_g K (r y1 3) (x8.toNat)) (y3.toNat))))]) (rest := []) ⟨hx, hb, hml, hown, hts⟩ (k_c0_put l D _ C L K z r A rv_27 (-(A (cw_g K (r y1 3) (x8.toNat)) (y3.toNat))) _ hw) (cwV 1 hts gX8_setUpLineOfB_X0_put rfl rfl rfl (by decide +kernel) ⟨Nat.le_of_ble_eq_true rfl, Nat.le_of_ble_eq_true rfl⟩) ⟨hm_blind, va_recv hK hP (ci := 0) (q0 := q9) rfl hq9, hm_pre hP hK hD hE⟩ rfl rfl hl.1 rfl (lv_room (Nat.le_of_ble_eq_true rfl)) dX8_setUpLineOfB_62 ⟨Nat.le_of_ble_eq_true rfl, Nat.le_of_ble_eq_true rfl⟩) hS (fun q _ h => hFc q h) hFc (fun u t H1 locs ht hvm hw hB hz1 hk1 hS => ?_)
      obtain ⟨rv_31, z_32, _, A_33⟩ := u
      obtain ⟨hP, hK1, hD1⟩ := hB
      rw [ht] at hP
      have hD := hD1.weaken (fun k q _ h => hFc q.1 h)
      have hP : va_P D vwCl (cw_w C L K z_32 r A_33) H1 := hP
      have hD : va_D Ad (cw_w C L K z_32 r A_33) := hD
      generalize H1 = H at hP hS ⊢
      refine W.eq (g2 := F0 m 65 ls []) rfl ?_
      obtain ⟨x8_35, hx8_35⟩ : ∃ y : Int, y = x8 + 1 := ⟨_, rfl⟩
      have hw := hw x8_35 hx8_35
      refine lv_iinc (v := hz_i x8_35) (lv' := [(8, .int (hz_i x8_35)), (0, .ref y0), (1, .ref y1), (2, .int (hz_i y2)), (3, .int (hz_i y3)), (4, .ref x4), (5, .int (hz_i x5)), (6, .long (hz_l x6))]) hx hb dX8_setUpLineOfB_65 hl (k := 7) rfl (by rw [hx8_35]; exact hz_i_add _ _) (by decide) rfl (fun ls hl => ?_)
      refine lv_goto (tgt := 33) hx hb dX8_setUpLineOfB_68 (by decide) ?_
      exact (hP33 z_32 A_33 x8_35).mp hw H locs ls hP hD hS (lv_sub hl [1, 2, 3, 4, 5, 6, 7, 0] rfl)
  have hP := hP0; have hD := hD0; have hS := hS0; have hl := hl0; have hw := hw0
  obtain ⟨H, hH⟩ : ∃ H : Heap, H = s.heap := ⟨_, rfl⟩
  obtain ⟨locs, hlocs⟩ : ∃ L : List Loc, L = [] := ⟨_, rfl⟩
  rw [← hH] at hP
  have hS : va_S Ad s.heap H locs := by rw [hH, hlocs]; exact hS
  refine mw_HL hH hlocs ?_
  refine lv_aload_n hx hb dX8_setUpLineOfB_0 rfl (lv_at hl 1 rfl) ?_
  obtain ⟨hO_36, hw⟩ := hw
  refine cw_get (ci := 2) (v := .ref (r y1 1)) hx hb hts hin2 hown hK hP hO_36.1 hO_36.2 rfl 1 (by decide) (hts (.fieldLink RX8 106 "HiddenMoves$Game" "sides" "[LHiddenMoves$Side;") (List.mem_cons_of_mem _ (List.mem_append_left _ (List.mem_append_left _ (List.mem_append_left _ (List.mem_append_left _ (List.mem_of_getElem? (i := 0) rfl))))))) (fun _ h9 => h9) rfl dX8_setUpLineOfB_1 ?_
  refine lv_iconst (v := hz_i 1) hx hb dX8_setUpLineOfB_4 (by decide +kernel) ?_
  obtain ⟨hO_37, hw⟩ := hw
  obtain ⟨h9i, hw⟩ := hw
  refine cw_ald hx hb hK hP hO_37.1 hO_37.2.2 rfl h9i hO_37.2.1 dX8_setUpLineOfB_5 ?_
  refine lv_astore (lv' := [(4, .ref (cw_g K (r y1 1) ((1 : Int).toNat))), (0, .ref y0), (1, .ref y1), (2, .int (hz_i y2)), (3, .int (hz_i y3))]) hx hb dX8_setUpLineOfB_6 hl (by decide) rfl (fun ls hl => ?_)
  refine lv_iload_n hx hb dX8_setUpLineOfB_8 rfl (lv_at hl 4 rfl) ?_
  refine lv_iconst (v := hz_i 1) hx hb dX8_setUpLineOfB_9 (by decide +kernel) ?_
  refine hz_isub hx hb dX8_setUpLineOfB_10 ?_
  refine hz_topi (fun x5_38 hx5_38 => ?_)
  have hw := hw x5_38 hx5_38
  refine lv_istore (lv' := [(5, .int (hz_i x5_38)), (4, .ref (cw_g K (r y1 1) ((1 : Int).toNat))), (0, .ref y0), (1, .ref y1), (2, .int (hz_i y2)), (3, .int (hz_i y3))]) hx hb dX8_setUpLineOfB_11 hl (by decide) rfl (fun ls hl => ?_)
  refine lv_aload_n hx hb dX8_setUpLineOfB_13 rfl (lv_at hl 3 rfl) ?_
  refine cw_get (ci := 2) (v := .ref (r y1 3)) hx hb hts hin2 hown hK hP hO_36.1 hO_36.2 rfl 3 (by decide) (hts (.fieldLink RX8 158 "HiddenMoves$Game" "weights" "[[J") (List.mem_cons_of_mem _ (List.mem_append_left _ (List.mem_append_left _ (List.mem_append_left _ (List.mem_append_left _ (List.mem_of_getElem? (i := 1) rfl))))))) (fun _ h9 => h9) rfl dX8_setUpLineOfB_14 ?_
  refine lv_iconst (v := hz_i 0) hx hb dX8_setUpLineOfB_17 (by decide +kernel) ?_
  obtain ⟨hO_39, hw⟩ := hw
  obtain ⟨h9i, hw⟩ := hw
  refine cw_aldJ hx hb hK hP hO_39.1 hO_39.2.2 h9i hO_39.2.1 dX8_setUpLineOfB_18 ?_
  refine lv_iload_n hx hb dX8_setUpLineOfB_19 rfl (lv_at hl 5 rfl) ?_
  obtain ⟨hO_40, hw⟩ := hw
  obtain ⟨h9i, hw⟩ := hw
  refine cw_lld hx hb hK hP hO_40.1 hO_40.2.2 h9i hO_40.2.1 dX8_setUpLineOfB_20 ?_
  refine lv_aload_n hx hb dX8_setUpLineOfB_21 rfl (lv_at hl 2 rfl) ?_
  obtain ⟨hO_41, hw⟩ := hw
  refine cw_get (ci := 8) (v := .ref (r y0 3)) hx hb hts hin8 hown hK hP hO_41.1 hO_41.2 rfl 3 (by decide) (hts (.fieldLink RX8 24 "HiddenMoves$Solver" "floors" "[J") (List.mem_cons_of_mem _ (List.mem_append_left _ (List.mem_append_left _ (List.mem_append_left _ (List.mem_append_left _ (List.mem_of_getElem? (i := 2) rfl))))))) (fun _ h9 => h9) rfl dX8_setUpLineOfB_22 ?_
  refine lv_iload_n hx hb dX8_setUpLineOfB_25 rfl (lv_at hl 4 rfl) ?_
  obtain ⟨hO_42, hw⟩ := hw
  obtain ⟨h9i, hw⟩ := hw
  refine cw_lld hx hb hK hP hO_42.1 hO_42.2.2 h9i hO_42.2.1 dX8_setUpLineOfB_26 ?_
  refine hz_ladd hx hb dX8_setUpLineOfB_27 ?_
  refine hz_topl (fun x6_43 hx6_43 => ?_)
  have hw := hw x6_43 hx6_43
  refine lv_lstore (lv' := [(6, .long (hz_l x6_43)), (5, .int (hz_i x5_38)), (4, .ref (cw_g K (r y1 1) ((1 : Int).toNat))), (0, .ref y0), (1, .ref y1), (2, .int (hz_i y2)), (3, .int (hz_i y3))]) hx hb dX8_setUpLineOfB_28 hl (by decide) rfl (fun ls hl => ?_)
  refine lv_iconst (v := hz_i 1) hx hb dX8_setUpLineOfB_30 (by decide +kernel) ?_
  refine lv_istore (lv' := [(8, .int (hz_i 1)), (6, .long (hz_l x6_43)), (5, .int (hz_i x5_38)), (4, .ref (cw_g K (r y1 1) ((1 : Int).toNat))), (0, .ref y0), (1, .ref y1), (2, .int (hz_i y2)), (3, .int (hz_i y3))]) hx hb dX8_setUpLineOfB_31 hl (by decide) rfl (fun ls hl => ?_)
  exact L33 z A (cw_g K (r y1 1) ((1 : Int).toNat)) x5_38 x6_43 1 hw H locs ls hP hD hS (lv_sub hl [4, 5, 6, 7, 3, 2, 1, 0] rfl)

noncomputable def wp_c8_setUpLinesOfB_20 (L : List Nat) (K : Nat → cw_K) (z : Nat → Nat → Int) (r : Nat → Nat → Nat) (A : Nat → Nat → Int) (y0 : Nat) (y1 : Nat) (x2 : Nat) (x3 : Int) (x4 : Int) (P9 : (Nat → Nat → Int) → (Nat → Nat → Int) → Int → Prop) (Q : (Nat → Nat → Int) → (Nat → Nat → Int) → Prop) : Prop := ∀ P20 : (Nat → Nat → Int) → (Nat → Nat → Int) → Int → Prop, (∀ (z : Nat → Nat → Int) (A : Nat → Nat → Int) (x4 : Int), cw_O L K 7 x2 ∧ cw_A L K 0 (r x2 2) ∧ ((0 : Int) ≤ x3 ∧ x3 < (cw_n K (r x2 2) : Int)) ∧ hz_rI x4 ∧ hz_rI (A (r x2 2) (x3.toNat)) ∧ ((A (r x2 2) (x3.toNat) ≤ x4 → ∀ x3_4 : Int, x3_4 = x3 + 1 → P9 z A x3_4) ∧ (¬ (A (r x2 2) (x3.toNat) ≤ x4) → cw_A L K 0 (r x2 6) ∧ ((0 : Int) ≤ x3 ∧ x3 < (cw_n K (r x2 6) : Int)) ∧ cw_O L K 8 y0 ∧ wp_c8_setUpLineOfB L K z r A y0 y1 x3 ((A (r x2 6) (x3.toNat)) + x4) (fun z_7 A_8 => ∀ x4_10 : Int, x4_10 = x4 + 1 → P20 z_7 A_8 x4_10))) → P20 z A x4) → P20 z A x4
noncomputable def wp_c8_setUpLinesOfB_9 (L : List Nat) (K : Nat → cw_K) (z : Nat → Nat → Int) (r : Nat → Nat → Nat) (A : Nat → Nat → Int) (y0 : Nat) (y1 : Nat) (x2 : Nat) (x3 : Int) (Q : (Nat → Nat → Int) → (Nat → Nat → Int) → Prop) : Prop := ∀ P9 : (Nat → Nat → Int) → (Nat → Nat → Int) → Int → Prop, (∀ (z : Nat → Nat → Int) (A : Nat → Nat → Int) (x3 : Int), cw_O L K 7 x2 ∧ hz_rI x3 ∧ hz_rI (z x2 0) ∧ ((z x2 0 ≤ x3 → Q z A) ∧ (¬ (z x2 0 ≤ x3) → wp_c8_setUpLinesOfB_20 L K z r A y0 y1 x2 x3 0 P9 Q)) → P9 z A x3) → P9 z A x3
noncomputable def wp_c8_setUpLinesOfB (L : List Nat) (K : Nat → cw_K) (z : Nat → Nat → Int) (r : Nat → Nat → Nat) (A : Nat → Nat → Int) (y0 : Nat) (y1 : Nat) (Q : (Nat → Nat → Int) → (Nat → Nat → Int) → Prop) : Prop := cw_O L K 2 y1 ∧ cw_G L K 7 (r y1 1) ∧ ((0 : Int) ≤ 1 ∧ 1 < (cw_n K (r y1 1) : Int)) ∧ wp_c8_setUpLinesOfB_9 L K z r A y0 y1 (cw_g K (r y1 1) ((1 : Int).toNat)) 0  Q
set_option maxHeartbeats 4000000 in
set_option maxRecDepth 100000 in
theorem k_c8_setUpLinesOfB (l : Launch) (D : va_G) (sz : Nat) (C : Nat → ClassId) (L : List Nat) (K : Nat → cw_K) (z : Nat → Nat → Int) (r : Nat → Nat → Nat) (A : Nat → Nat → Int) (y0 : Nat) (y1 : Nat) (Q : (Nat → Nat → Int) → (Nat → Nat → Int) → Prop) (hw : wp_c8_setUpLinesOfB L K z r A y0 y1 Q) : Met l yX8_setUpLinesOfB wsX8_setUpLinesOfB ({ frames := 2, cells := 0, slots := 0, locals := 53 } : Room) (va_Pc [.ref y0, .ref y1] (hm_P D (cw_w C L K z r A) (cw_t C) sz)) (va_Qv (S := Int × (Nat → Nat → Int) × (Nat → Nat → Nat) × (Nat → Nat → Int)) (fun u => Q u.2.1 u.2.2.2) (fun u t => hm_B D (va_A (cw_w C L K z r A) sz) (cw_w C L K u.2.1 r u.2.2.2) (cw_t C) t) (va_A (cw_w C L K z r A) sz)) 0 0 (va_A (cw_w C L K z r A) sz) := by
  refine Met.ofW (cc := cX8_setUpLinesOfB) (maxL := 5) (ret := none) (by decide) rfl ?_
  intro p e s m args below meth c s₁ B hml hv
  obtain ⟨rfl, hsz, hP, hK, hD0, hE⟩ := hv
  have hx := B.exec
  have hb := B.bytes
  have hr := B.returns
  have hts := atoms_spec (ws := wsX8_setUpLinesOfB) B.pre
  have hown : s.vm.findClass RX8 = some m.cls := findClass_of_methodNamed B.named
  have hlocks := B.notSynchronized
  have hin2 : ∀ w ∈ u_ws RX2 TX2 4, w ∈ wsX8_setUpLinesOfB := fun w h => List.mem_cons_of_mem _ (List.mem_append_left _ (List.mem_append_left _ (List.mem_append_left _ (List.mem_append_right _ (h)))))
  have hin7 : ∀ w ∈ u_ws RX7 TX7 8, w ∈ wsX8_setUpLinesOfB := fun w h => List.mem_cons_of_mem _ (List.mem_append_left _ (List.mem_append_left _ (List.mem_append_right _ (h))))
  subst hsz
  have hD := hD0.self (sz := s.heap.size)
  generalize hAe : va_A (cw_w C L K z r A) s.heap.size = Ad at hD ⊢
  have hA : ∀ q : Nat, s.heap.size ≤ q → Ad q := fun q h => by rw [← hAe]; exact Or.inr h
  have hS : va_S Ad s.heap s.heap [] := va_S.rf
  have hl := lv_entry ([.ref y0, .ref y1]) (n := 5) (Nat.le_of_ble_eq_true rfl)
  rw [lg_entry_eq]
  generalize (lg_sl ([.ref y0, .ref y1]) ++ List.replicate (5 - (lg_sl ([.ref y0, .ref y1])).length) Slot.unset).toArray = ls at hl ⊢
  have hl : lv_has ls 5 [(0, .ref y0), (1, .ref y1)] := hl
  refine mw_Q (fun QQ hQQ => ?_)
  have hP0 := hP; have hD0 := hD; have hS0 := hS; have hl0 := hl; have hw0 := hw
  clear hP hD hS hl hw
  have L9 : ∀ (z : Nat → Nat → Int) (A : Nat → Nat → Int) (x2 : Nat) (x3 : Int), wp_c8_setUpLinesOfB_9 L K z r A y0 y1 x2 x3  Q → ∀ (H : Heap) (locs : List Loc) (ls : Array Slot), va_P D vwCl (cw_w C L K z r A) H → va_D Ad (cw_w C L K z r A) → va_S Ad s.heap H locs → lv_has ls 5 [(0, .ref y0), (1, .ref y1), (2, .ref x2), (3, .int (hz_i x3))] → W p l e (headSpec wsX8_setUpLinesOfB ({ frames := 2, cells := 0, slots := 0, locals := 53 } : Room)).room s m (List.toArray [.ref y0, .ref y1]) below meth c H locs 0 0 QQ (F0 m 9 ls []) := by
    intro z A x2 x3 hw
    obtain ⟨P9, hP9⟩ : ∃ P : (Nat → Nat → Int) → (Nat → Nat → Int) → Int → Prop, ∀ (z : Nat → Nat → Int) (A : Nat → Nat → Int) (x3 : Int), P z A x3 ↔ (∀ (H : Heap) (locs : List Loc) (ls : Array Slot), va_P D vwCl (cw_w C L K z r A) H → va_D Ad (cw_w C L K z r A) → va_S Ad s.heap H locs → lv_has ls 5 [(0, .ref y0), (1, .ref y1), (2, .ref x2), (3, .int (hz_i x3))] → W p l e (headSpec wsX8_setUpLinesOfB ({ frames := 2, cells := 0, slots := 0, locals := 53 } : Room)).room s m (List.toArray [.ref y0, .ref y1]) below meth c H locs 0 0 QQ (F0 m 9 ls [])) := ⟨fun (z : Nat → Nat → Int) (A : Nat → Nat → Int) (x3 : Int) => ∀ (H : Heap) (locs : List Loc) (ls : Array Slot), va_P D vwCl (cw_w C L K z r A) H → va_D Ad (cw_w C L K z r A) → va_S Ad s.heap H locs → lv_has ls 5 [(0, .ref y0), (1, .ref y1), (2, .ref x2), (3, .int (hz_i x3))] → W p l e (headSpec wsX8_setUpLinesOfB ({ frames := 2, cells := 0, slots := 0, locals := 53 } : Room)).room s m (List.toArray [.ref y0, .ref y1]) below meth c H locs 0 0 QQ (F0 m 9 ls []), fun _ _ _ => Iff.rfl⟩
    refine (hP9 z A x3).mp (hw P9 ?_)
    intro z A x3 hw
    refine (hP9 z A x3).mpr ?_
    intro H locs ls hP hD hS hl
    have L20 : ∀ (z : Nat → Nat → Int) (A : Nat → Nat → Int) (x3 : Int) (x4 : Int), wp_c8_setUpLinesOfB_20 L K z r A y0 y1 x2 x3 x4 P9 Q → ∀ (H : Heap) (locs : List Loc) (ls : Array Slot), va_P D vwCl (cw_w C L K z r A) H → va_D Ad (cw_w C L K z r A) → va_S Ad s.heap H locs → lv_has ls 5 [(0, .ref y0), (1, .ref y1), (2, .ref x2), (3, .int (hz_i x3)), (4, .int (hz_i x4))] → W p l e (headSpec wsX8_setUpLinesOfB ({ frames := 2, cells := 0, slots := 0, locals := 53 } : Room)).room s m (List.toArray [.ref y0, .ref y1]) below meth c H locs 0 0 QQ (F0 m 20 ls []) := by
      intro z A x3 x4 hw
      obtain ⟨P20, hP20⟩ : ∃ P : (Nat → Nat → Int) → (Nat → Nat → Int) → Int → Prop, ∀ (z : Nat → Nat → Int) (A : Nat → Nat → Int) (x4 : Int), P z A x4 ↔ (∀ (H : Heap) (locs : List Loc) (ls : Array Slot), va_P D vwCl (cw_w C L K z r A) H → va_D Ad (cw_w C L K z r A) → va_S Ad s.heap H locs → lv_has ls 5 [(0, .ref y0), (1, .ref y1), (2, .ref x2), (3, .int (hz_i x3)), (4, .int (hz_i x4))] → W p l e (headSpec wsX8_setUpLinesOfB ({ frames := 2, cells := 0, slots := 0, locals := 53 } : Room)).room s m (List.toArray [.ref y0, .ref y1]) below meth c H locs 0 0 QQ (F0 m 20 ls [])) := ⟨fun (z : Nat → Nat → Int) (A : Nat → Nat → Int) (x4 : Int) => ∀ (H : Heap) (locs : List Loc) (ls : Array Slot), va_P D vwCl (cw_w C L K z r A) H → va_D Ad (cw_w C L K z r A) → va_S Ad s.heap H locs → lv_has ls 5 [(0, .ref y0), (1, .ref y1), (2, .ref x2), (3, .int (hz_i x3)), (4, .int (hz_i x4))] → W p l e (headSpec wsX8_setUpLinesOfB ({ frames := 2, cells := 0, slots := 0, locals := 53 } : Room)).room s m (List.toArray [.ref y0, .ref y1]) below meth c H locs 0 0 QQ (F0 m 20 ls []), fun _ _ _ => Iff.rfl⟩
      refine (hP20 z A x4).mp (hw P20 ?_)
      intro z A x4 hw
      refine (hP20 z A x4).mpr ?_
      intro H locs ls hP hD hS hl
      refine lv_iload hx hb dX8_setUpLinesOfB_20 (lv_at hl 4 rfl) ?_
      refine lv_aload_n hx hb dX8_setUpLinesOfB_22 rfl (lv_at hl 2 rfl) ?_
      obtain ⟨hO_1, hw⟩ := hw
      refine cw_get (ci := 7) (v := .ref (r x2 2)) hx hb hts hin7 hown hK hP hO_1.1 hO_1.2 rfl 2 (by decide) (hts (.fieldLink RX8 148 "HiddenMoves$Side" "moves" "[I") (List.mem_cons_of_mem _ (List.mem_append_left _ (List.mem_append_left _ (List.mem_append_left _ (List.mem_append_left _ (List.mem_append_left _ (List.mem_of_getElem? (i := 2) rfl)))))))) (fun _ h9 => h9) rfl dX8_setUpLinesOfB_23 ?_
      refine lv_iload_n hx hb dX8_setUpLinesOfB_26 rfl (lv_at hl 3 rfl) ?_
      obtain ⟨hO_2, hw⟩ := hw
      obtain ⟨h9i, hw⟩ := hw
      refine cw_ild hx hb hK hP hO_2.1 hO_2.2.2 h9i hO_2.2.1 dX8_setUpLinesOfB_27 ?_
      obtain ⟨h9a, hw⟩ := hw
      obtain ⟨h9b, hw⟩ := hw
      refine hz_icmp_ge (tgt := 52) hx hb dX8_setUpLinesOfB_28 (by decide) h9a h9b (fun c_3 => ?_) (fun c_3 => ?_)
      · have hw := hw.1 c_3
        obtain ⟨x3_4, hx3_4⟩ : ∃ y : Int, y = x3 + 1 := ⟨_, rfl⟩
        have hw := hw x3_4 hx3_4
        refine lv_iinc (v := hz_i x3_4) (lv' := [(3, .int (hz_i x3_4)), (0, .ref y0), (1, .ref y1), (2, .ref x2), (4, .int (hz_i x4))]) hx hb dX8_setUpLinesOfB_52 hl (k := 3) rfl (by rw [hx3_4]; exact hz_i_add _ _) (by decide) rfl (fun ls hl => ?_)
        refine lv_goto (tgt := 9) hx hb dX8_setUpLinesOfB_55 (by decide) ?_
        exact (hP9 z A x3_4).mp hw H locs ls hP hD hS (lv_sub hl [1, 2, 3, 0] rfl)
      · have hw := hw.2 c_3
        refine lv_aload_n hx hb dX8_setUpLinesOfB_31 rfl (lv_at hl 0 rfl) ?_
        refine lv_aload_n hx hb dX8_setUpLinesOfB_32 rfl (lv_at hl 1 rfl) ?_
        refine lv_iload_n hx hb dX8_setUpLinesOfB_33 rfl (lv_at hl 3 rfl) ?_
        refine lv_aload_n hx hb dX8_setUpLinesOfB_34 rfl (lv_at hl 2 rfl) ?_
        refine cw_get (ci := 7) (v := .ref (r x2 6)) hx hb hts hin7 hown hK hP hO_1.1 hO_1.2 rfl 6 (by decide) (hts (.fieldLink RX8 151 "HiddenMoves$Side" "firstLines" "[I") (List.mem_cons_of_mem _ (List.mem_append_left _ (List.mem_append_left _ (List.mem_append_left _ (List.mem_append_left _ (List.mem_append_left _ (List.mem_of_getElem? (i := 3) rfl)))))))) (fun _ h9 => h9) rfl dX8_setUpLinesOfB_35 ?_
        refine lv_iload_n hx hb dX8_setUpLinesOfB_38 rfl (lv_at hl 3 rfl) ?_
        obtain ⟨hO_5, hw⟩ := hw
        obtain ⟨h9i, hw⟩ := hw
        refine cw_ild hx hb hK hP hO_5.1 hO_5.2.2 h9i hO_5.2.1 dX8_setUpLinesOfB_39 ?_
        refine lv_iload hx hb dX8_setUpLinesOfB_40 (lv_at hl 4 rfl) ?_
        refine hz_iadd hx hb dX8_setUpLinesOfB_42 ?_
        obtain ⟨hO_9, hw⟩ := hw
        have hFc := cw_free hD hS hA
        obtain ⟨q9, hq9⟩ := cw_at (C := C) (z := z) (r := r) (A := A) hO_9.1 hO_9.2
        refine va_callv (va_runV (As := [.ref y1, .int (hz_i x3), .int (hz_i ((A (r x2 6) (x3.toNat)) + x4))]) (rest := []) ⟨hx, hb, hml, hown, hts⟩ (k_c8_setUpLineOfB l D _ C L K z r A y0 y1 x3 ((A (r x2 6) (x3.toNat)) + x4) _ hw) (cwV 3 hts gX8_setUpLinesOfB_X8_setUpLineOfB rfl rfl rfl (by decide +kernel) ⟨Nat.le_of_ble_eq_true rfl, Nat.le_of_ble_eq_true rfl⟩) ⟨hm_blind, va_recv hK hP (ci := 8) (q0 := q9) rfl hq9, hm_pre hP hK hD hE⟩ rfl rfl hl.1 rfl (lv_room (Nat.le_of_ble_eq_true rfl)) dX8_setUpLinesOfB_43 ⟨Nat.le_of_ble_eq_true rfl, Nat.le_of_ble_eq_true rfl⟩) hS (fun q _ h => hFc q h) hFc (fun u t H1 locs ht hvm hw hB hz1 hk1 hS => ?_)
        obtain ⟨rv_6, z_7, _, A_8⟩ := u
        obtain ⟨hP, hK1, hD1⟩ := hB
        rw [ht] at hP
        have hD := hD1.weaken (fun k q _ h => hFc q.1 h)
        have hP : va_P D vwCl (cw_w C L K z_7 r A_8) H1 := hP
        have hD : va_D Ad (cw_w C L K z_7 r A_8) := hD
        generalize H1 = H at hP hS ⊢
        refine W.eq (g2 := F0 m 46 ls []) rfl ?_
        obtain ⟨x4_10, hx4_10⟩ : ∃ y : Int, y = x4 + 1 := ⟨_, rfl⟩
        have hw := hw x4_10 hx4_10
        refine lv_iinc (v := hz_i x4_10) (lv' := [(4, .int (hz_i x4_10)), (0, .ref y0), (1, .ref y1), (2, .ref x2), (3, .int (hz_i x3))]) hx hb dX8_setUpLinesOfB_46 hl (k := 4) rfl (by rw [hx4_10]; exact hz_i_add _ _) (by decide) rfl (fun ls hl => ?_)
        refine lv_goto (tgt := 20) hx hb dX8_setUpLinesOfB_49 (by decide) ?_
        exact (hP20 z_7 A_8 x4_10).mp hw H locs ls hP hD hS (lv_sub hl [1, 2, 3, 4, 0] rfl)
    refine lv_iload_n hx hb dX8_setUpLinesOfB_9 rfl (lv_at hl 3 rfl) ?_
    refine lv_aload_n hx hb dX8_setUpLinesOfB_10 rfl (lv_at hl 2 rfl) ?_
    obtain ⟨hO_11, hw⟩ := hw
    refine cw_get (ci := 7) (v := .int (hz_i (z x2 0))) hx hb hts hin7 hown hK hP hO_11.1 hO_11.2 rfl 0 (by decide) (hts (.fieldLink RX8 117 "HiddenMoves$Side" "sets" "I") (List.mem_cons_of_mem _ (List.mem_append_left _ (List.mem_append_left _ (List.mem_append_left _ (List.mem_append_left _ (List.mem_append_left _ (List.mem_of_getElem? (i := 1) rfl)))))))) (fun _ h9 => h9) rfl dX8_setUpLinesOfB_11 ?_
    obtain ⟨h9a, hw⟩ := hw
    obtain ⟨h9b, hw⟩ := hw
    refine hz_icmp_ge (tgt := 58) hx hb dX8_setUpLinesOfB_14 (by decide) h9a h9b (fun c_12 => ?_) (fun c_12 => ?_)
    · have hw := hw.1 c_12
      subst hQQ
      subst hAe
      exact W.vret hx hb hr (fun t ht hW => ⟨⟨(0, z, r, A), rfl, hw, by rw [ht]; exact hP, va_K.moved hW.alike hK, hD⟩, hS.F ht⟩) hS.2.2 dX8_setUpLinesOfB_58
    · have hw := hw.2 c_12
      refine lv_iconst (v := hz_i 0) hx hb dX8_setUpLinesOfB_17 (by decide +kernel) ?_
      refine lv_istore (lv' := [(4, .int (hz_i 0)), (0, .ref y0), (1, .ref y1), (2, .ref x2), (3, .int (hz_i x3))]) hx hb dX8_setUpLinesOfB_18 hl (by decide) rfl (fun ls hl => ?_)
      exact L20 z A x3 0 hw H locs ls hP hD hS (lv_sub hl [1, 2, 3, 4, 0] rfl)
  have hP := hP0; have hD := hD0; have hS := hS0; have hl := hl0; have hw := hw0
  obtain ⟨H, hH⟩ : ∃ H : Heap, H = s.heap := ⟨_, rfl⟩
  obtain ⟨locs, hlocs⟩ : ∃ L : List Loc, L = [] := ⟨_, rfl⟩
  rw [← hH] at hP
  have hS : va_S Ad s.heap H locs := by rw [hH, hlocs]; exact hS
  refine mw_HL hH hlocs ?_
  refine lv_aload_n hx hb dX8_setUpLinesOfB_0 rfl (lv_at hl 1 rfl) ?_
  obtain ⟨hO_13, hw⟩ := hw
  refine cw_get (ci := 2) (v := .ref (r y1 1)) hx hb hts hin2 hown hK hP hO_13.1 hO_13.2 rfl 1 (by decide) (hts (.fieldLink RX8 106 "HiddenMoves$Game" "sides" "[LHiddenMoves$Side;") (List.mem_cons_of_mem _ (List.mem_append_left _ (List.mem_append_left _ (List.mem_append_left _ (List.mem_append_left _ (List.mem_append_left _ (List.mem_of_getElem? (i := 0) rfl)))))))) (fun _ h9 => h9) rfl dX8_setUpLinesOfB_1 ?_
  refine lv_iconst (v := hz_i 1) hx hb dX8_setUpLinesOfB_4 (by decide +kernel) ?_
  obtain ⟨hO_14, hw⟩ := hw
  obtain ⟨h9i, hw⟩ := hw
  refine cw_ald hx hb hK hP hO_14.1 hO_14.2.2 rfl h9i hO_14.2.1 dX8_setUpLinesOfB_5 ?_
  refine lv_astore_n (lv' := [(2, .ref (cw_g K (r y1 1) ((1 : Int).toNat))), (0, .ref y0), (1, .ref y1)]) hx hb dX8_setUpLinesOfB_6 rfl hl (by decide) rfl (fun ls hl => ?_)
  refine lv_iconst (v := hz_i 0) hx hb dX8_setUpLinesOfB_7 (by decide +kernel) ?_
  refine lv_istore_n (lv' := [(3, .int (hz_i 0)), (2, .ref (cw_g K (r y1 1) ((1 : Int).toNat))), (0, .ref y0), (1, .ref y1)]) hx hb dX8_setUpLinesOfB_8 rfl hl (by decide) rfl (fun ls hl => ?_)
  exact L9 z A (cw_g K (r y1 1) ((1 : Int).toNat)) 0 hw H locs ls hP hD hS (lv_sub hl [2, 3, 1, 0] rfl)

noncomputable def wp_c8_setUpSetsOfA_103 (L : List Nat) (K : Nat → cw_K) (z : Nat → Nat → Int) (r : Nat → Nat → Nat) (A : Nat → Nat → Int) (y0 : Nat) (y1 : Nat) (x2 : Int) (P2 : (Nat → Nat → Int) → (Nat → Nat → Int) → Int → Prop) (Q : (Nat → Nat → Int) → (Nat → Nat → Int) → Prop) : Prop := ∀ x2_1 : Int, x2_1 = x2 + 1 → P2 z A x2_1
noncomputable def wp_c8_setUpSetsOfA_22 (L : List Nat) (K : Nat → cw_K) (z : Nat → Nat → Int) (r : Nat → Nat → Nat) (A : Nat → Nat → Int) (y0 : Nat) (y1 : Nat) (x2 : Int) (x3 : Int) (x4 : Int) (P2 : (Nat → Nat → Int) → (Nat → Nat → Int) → Int → Prop) (Q : (Nat → Nat → Int) → (Nat → Nat → Int) → Prop) : Prop := ∀ P22 : (Nat → Nat → Int) → (Nat → Nat → Int) → Int → Prop, (∀ (z : Nat → Nat → Int) (A : Nat → Nat → Int) (x4 : Int), cw_O L K 7 y1 ∧ cw_A L K 0 (r y1 2) ∧ ((0 : Int) ≤ x2 ∧ x2 < (cw_n K (r y1 2) : Int)) ∧ hz_rI x4 ∧ hz_rI (A (r y1 2) (x2.toNat)) ∧ ((A (r y1 2) (x2.toNat) ≤ x4 → cw_A L K 0 (r y1 7) ∧ ((0 : Int) ≤ x2 ∧ x2 < (cw_n K (r y1 7) : Int)) ∧ hz_rI (A (r y1 7) (x2.toNat)) ∧ ((¬ A (r y1 7) (x2.toNat) = 0 → ((0 : Int) ≤ x2 ∧ x2 < (cw_n K (r y1 7) : Int)) ∧ cw_O L K 8 y0 ∧ wp_c8_cell L K z r A y0 x3 ((A (r y1 7) (x2.toNat)) - 1) (fun rv_7 => cw_O L K 0 rv_7 ∧ wp_c0_put L K z r A rv_7 (-1) (fun z_10 A_11 => wp_c8_setUpSetsOfA_103 L K z_10 r A_11 y0 y1 x2 P2 Q))) ∧ (A (r y1 7) (x2.toNat) = 0 → cw_O L K 8 y0 ∧ wp_c8_cell L K z r A y0 x3 (z y0 5) (fun rv_14 => cw_O L K 0 rv_14 ∧ wp_c0_put L K z r A rv_14 1 (fun z_16 A_17 => wp_c8_setUpSetsOfA_103 L K z_16 r A_17 y0 y1 x2 P2 Q))))) ∧ (¬ (A (r y1 2) (x2.toNat) ≤ x4) → cw_A L K 0 (r y1 6) ∧ ((0 : Int) ≤ x2 ∧ x2 < (cw_n K (r y1 6) : Int)) ∧ cw_O L K 8 y0 ∧ wp_c8_cell L K z r A y0 x3 (((A (r y1 6) (x2.toNat)) + x4) - 1) (fun rv_20 => cw_O L K 0 rv_20 ∧ wp_c0_put L K z r A rv_20 1 (fun z_23 A_24 => ∀ x4_26 : Int, x4_26 = x4 + 1 → P22 z_23 A_24 x4_26)))) → P22 z A x4) → P22 z A x4
noncomputable def wp_c8_setUpSetsOfA_2 (L : List Nat) (K : Nat → cw_K) (z : Nat → Nat → Int) (r : Nat → Nat → Nat) (A : Nat → Nat → Int) (y0 : Nat) (y1 : Nat) (x2 : Int) (Q : (Nat → Nat → Int) → (Nat → Nat → Int) → Prop) : Prop := ∀ P2 : (Nat → Nat → Int) → (Nat → Nat → Int) → Int → Prop, (∀ (z : Nat → Nat → Int) (A : Nat → Nat → Int) (x2 : Int), cw_O L K 7 y1 ∧ hz_rI x2 ∧ hz_rI (z y1 0) ∧ ((z y1 0 ≤ x2 → Q z A) ∧ (¬ (z y1 0 ≤ x2) → cw_O L K 8 y0 ∧ ∀ x3_30 : Int, x3_30 = ((z y0 7) - 1) + x2 → wp_c8_setUpSetsOfA_22 L K z r A y0 y1 x2 x3_30 0 P2 Q)) → P2 z A x2) → P2 z A x2
noncomputable def wp_c8_setUpSetsOfA (L : List Nat) (K : Nat → cw_K) (z : Nat → Nat → Int) (r : Nat → Nat → Nat) (A : Nat → Nat → Int) (y0 : Nat) (y1 : Nat) (Q : (Nat → Nat → Int) → (Nat → Nat → Int) → Prop) : Prop := wp_c8_setUpSetsOfA_2 L K z r A y0 y1 0  Q
set_option maxHeartbeats 4000000 in
set_option maxRecDepth 100000 in
theorem k_c8_setUpSetsOfA (l : Launch) (D : va_G) (sz : Nat) (C : Nat → ClassId) (L : List Nat) (K : Nat → cw_K) (z : Nat → Nat → Int) (r : Nat → Nat → Nat) (A : Nat → Nat → Int) (y0 : Nat) (y1 : Nat) (Q : (Nat → Nat → Int) → (Nat → Nat → Int) → Prop) (hw : wp_c8_setUpSetsOfA L K z r A y0 y1 Q) : Met l yX8_setUpSetsOfA wsX8_setUpSetsOfA ({ frames := 1, cells := 0, slots := 0, locals := 25 } : Room) (va_Pc [.ref y0, .ref y1] (hm_P D (cw_w C L K z r A) (cw_t C) sz)) (va_Qv (S := Int × (Nat → Nat → Int) × (Nat → Nat → Nat) × (Nat → Nat → Int)) (fun u => Q u.2.1 u.2.2.2) (fun u t => hm_B D (va_A (cw_w C L K z r A) sz) (cw_w C L K u.2.1 r u.2.2.2) (cw_t C) t) (va_A (cw_w C L K z r A) sz)) 0 0 (va_A (cw_w C L K z r A) sz) := by
  refine Met.ofW (cc := cX8_setUpSetsOfA) (maxL := 5) (ret := none) (by decide) rfl ?_
  intro p e s m args below meth c s₁ B hml hv
  obtain ⟨rfl, hsz, hP, hK, hD0, hE⟩ := hv
  have hx := B.exec
  have hb := B.bytes
  have hr := B.returns
  have hts := atoms_spec (ws := wsX8_setUpSetsOfA) B.pre
  have hown : s.vm.findClass RX8 = some m.cls := findClass_of_methodNamed B.named
  have hlocks := B.notSynchronized
  have hin7 : ∀ w ∈ u_ws RX7 TX7 8, w ∈ wsX8_setUpSetsOfA := fun w h => List.mem_cons_of_mem _ (List.mem_append_left _ (List.mem_append_left _ (List.mem_append_right _ (h))))
  have hin8 : ∀ w ∈ u_ws RX8 TX8 13, w ∈ wsX8_setUpSetsOfA := fun w h => List.mem_cons_of_mem _ (List.mem_append_left _ (List.mem_append_right _ (h)))
  subst hsz
  have hD := hD0.self (sz := s.heap.size)
  generalize hAe : va_A (cw_w C L K z r A) s.heap.size = Ad at hD ⊢
  have hA : ∀ q : Nat, s.heap.size ≤ q → Ad q := fun q h => by rw [← hAe]; exact Or.inr h
  have hS : va_S Ad s.heap s.heap [] := va_S.rf
  have hl := lv_entry ([.ref y0, .ref y1]) (n := 5) (Nat.le_of_ble_eq_true rfl)
  rw [lg_entry_eq]
  generalize (lg_sl ([.ref y0, .ref y1]) ++ List.replicate (5 - (lg_sl ([.ref y0, .ref y1])).length) Slot.unset).toArray = ls at hl ⊢
  have hl : lv_has ls 5 [(0, .ref y0), (1, .ref y1)] := hl
  refine mw_Q (fun QQ hQQ => ?_)
  have hP0 := hP; have hD0 := hD; have hS0 := hS; have hl0 := hl; have hw0 := hw
  clear hP hD hS hl hw
  have L2 : ∀ (z : Nat → Nat → Int) (A : Nat → Nat → Int) (x2 : Int), wp_c8_setUpSetsOfA_2 L K z r A y0 y1 x2  Q → ∀ (H : Heap) (locs : List Loc) (ls : Array Slot), va_P D vwCl (cw_w C L K z r A) H → va_D Ad (cw_w C L K z r A) → va_S Ad s.heap H locs → lv_has ls 5 [(0, .ref y0), (1, .ref y1), (2, .int (hz_i x2))] → W p l e (headSpec wsX8_setUpSetsOfA ({ frames := 1, cells := 0, slots := 0, locals := 25 } : Room)).room s m (List.toArray [.ref y0, .ref y1]) below meth c H locs 0 0 QQ (F0 m 2 ls []) := by
    intro z A x2 hw
    obtain ⟨P2, hP2⟩ : ∃ P : (Nat → Nat → Int) → (Nat → Nat → Int) → Int → Prop, ∀ (z : Nat → Nat → Int) (A : Nat → Nat → Int) (x2 : Int), P z A x2 ↔ (∀ (H : Heap) (locs : List Loc) (ls : Array Slot), va_P D vwCl (cw_w C L K z r A) H → va_D Ad (cw_w C L K z r A) → va_S Ad s.heap H locs → lv_has ls 5 [(0, .ref y0), (1, .ref y1), (2, .int (hz_i x2))] → W p l e (headSpec wsX8_setUpSetsOfA ({ frames := 1, cells := 0, slots := 0, locals := 25 } : Room)).room s m (List.toArray [.ref y0, .ref y1]) below meth c H locs 0 0 QQ (F0 m 2 ls [])) := ⟨fun (z : Nat → Nat → Int) (A : Nat → Nat → Int) (x2 : Int) => ∀ (H : Heap) (locs : List Loc) (ls : Array Slot), va_P D vwCl (cw_w C L K z r A) H → va_D Ad (cw_w C L K z r A) → va_S Ad s.heap H locs → lv_has ls 5 [(0, .ref y0), (1, .ref y1), (2, .int (hz_i x2))] → W p l e (headSpec wsX8_setUpSetsOfA ({ frames := 1, cells := 0, slots := 0, locals := 25 } : Room)).room s m (List.toArray [.ref y0, .ref y1]) below meth c H locs 0 0 QQ (F0 m 2 ls []), fun _ _ _ => Iff.rfl⟩
    refine (hP2 z A x2).mp (hw P2 ?_)
    intro z A x2 hw
    refine (hP2 z A x2).mpr ?_
    intro H locs ls hP hD hS hl
    have L103 : ∀ (z : Nat → Nat → Int) (A : Nat → Nat → Int) (x2 : Int), wp_c8_setUpSetsOfA_103 L K z r A y0 y1 x2 P2 Q → ∀ (H : Heap) (locs : List Loc) (ls : Array Slot), va_P D vwCl (cw_w C L K z r A) H → va_D Ad (cw_w C L K z r A) → va_S Ad s.heap H locs → lv_has ls 5 [(0, .ref y0), (1, .ref y1), (2, .int (hz_i x2))] → W p l e (headSpec wsX8_setUpSetsOfA ({ frames := 1, cells := 0, slots := 0, locals := 25 } : Room)).room s m (List.toArray [.ref y0, .ref y1]) below meth c H locs 0 0 QQ (F0 m 103 ls []) := by
      intro z A x2 hw H locs ls hP hD hS hl
      obtain ⟨x2_1, hx2_1⟩ : ∃ y : Int, y = x2 + 1 := ⟨_, rfl⟩
      have hw := hw x2_1 hx2_1
      refine lv_iinc (v := hz_i x2_1) (lv' := [(2, .int (hz_i x2_1)), (0, .ref y0), (1, .ref y1)]) hx hb dX8_setUpSetsOfA_103 hl (k := 2) rfl (by rw [hx2_1]; exact hz_i_add _ _) (by decide) rfl (fun ls hl => ?_)
      refine lv_goto (tgt := 2) hx hb dX8_setUpSetsOfA_106 (by decide) ?_
      exact (hP2 z A x2_1).mp hw H locs ls hP hD hS (lv_sub hl [1, 2, 0] rfl)
    have L22 : ∀ (z : Nat → Nat → Int) (A : Nat → Nat → Int) (x2 : Int) (x3 : Int) (x4 : Int), wp_c8_setUpSetsOfA_22 L K z r A y0 y1 x2 x3 x4 P2 Q → ∀ (H : Heap) (locs : List Loc) (ls : Array Slot), va_P D vwCl (cw_w C L K z r A) H → va_D Ad (cw_w C L K z r A) → va_S Ad s.heap H locs → lv_has ls 5 [(0, .ref y0), (1, .ref y1), (2, .int (hz_i x2)), (3, .int (hz_i x3)), (4, .int (hz_i x4))] → W p l e (headSpec wsX8_setUpSetsOfA ({ frames := 1, cells := 0, slots := 0, locals := 25 } : Room)).room s m (List.toArray [.ref y0, .ref y1]) below meth c H locs 0 0 QQ (F0 m 22 ls []) := by
      intro z A x2 x3 x4 hw
      obtain ⟨P22, hP22⟩ : ∃ P : (Nat → Nat → Int) → (Nat → Nat → Int) → Int → Prop, ∀ (z : Nat → Nat → Int) (A : Nat → Nat → Int) (x4 : Int), P z A x4 ↔ (∀ (H : Heap) (locs : List Loc) (ls : Array Slot), va_P D vwCl (cw_w C L K z r A) H → va_D Ad (cw_w C L K z r A) → va_S Ad s.heap H locs → lv_has ls 5 [(0, .ref y0), (1, .ref y1), (2, .int (hz_i x2)), (3, .int (hz_i x3)), (4, .int (hz_i x4))] → W p l e (headSpec wsX8_setUpSetsOfA ({ frames := 1, cells := 0, slots := 0, locals := 25 } : Room)).room s m (List.toArray [.ref y0, .ref y1]) below meth c H locs 0 0 QQ (F0 m 22 ls [])) := ⟨fun (z : Nat → Nat → Int) (A : Nat → Nat → Int) (x4 : Int) => ∀ (H : Heap) (locs : List Loc) (ls : Array Slot), va_P D vwCl (cw_w C L K z r A) H → va_D Ad (cw_w C L K z r A) → va_S Ad s.heap H locs → lv_has ls 5 [(0, .ref y0), (1, .ref y1), (2, .int (hz_i x2)), (3, .int (hz_i x3)), (4, .int (hz_i x4))] → W p l e (headSpec wsX8_setUpSetsOfA ({ frames := 1, cells := 0, slots := 0, locals := 25 } : Room)).room s m (List.toArray [.ref y0, .ref y1]) below meth c H locs 0 0 QQ (F0 m 22 ls []), fun _ _ _ => Iff.rfl⟩
      refine (hP22 z A x4).mp (hw P22 ?_)
      intro z A x4 hw
      refine (hP22 z A x4).mpr ?_
      intro H locs ls hP hD hS hl
      refine lv_iload hx hb dX8_setUpSetsOfA_22 (lv_at hl 4 rfl) ?_
      refine lv_aload_n hx hb dX8_setUpSetsOfA_24 rfl (lv_at hl 1 rfl) ?_
      obtain ⟨hO_2, hw⟩ := hw
      refine cw_get (ci := 7) (v := .ref (r y1 2)) hx hb hts hin7 hown hK hP hO_2.1 hO_2.2 rfl 2 (by decide) (hts (.fieldLink RX8 148 "HiddenMoves$Side" "moves" "[I") (List.mem_cons_of_mem _ (List.mem_append_left _ (List.mem_append_left _ (List.mem_append_left _ (List.mem_of_getElem? (i := 2) rfl)))))) (fun _ h9 => h9) rfl dX8_setUpSetsOfA_25 ?_
      refine lv_iload_n hx hb dX8_setUpSetsOfA_28 rfl (lv_at hl 2 rfl) ?_
      obtain ⟨hO_3, hw⟩ := hw
      obtain ⟨h9i, hw⟩ := hw
      refine cw_ild hx hb hK hP hO_3.1 hO_3.2.2 h9i hO_3.2.1 dX8_setUpSetsOfA_29 ?_
      obtain ⟨h9a, hw⟩ := hw
      obtain ⟨h9b, hw⟩ := hw
      refine hz_icmp_ge (tgt := 59) hx hb dX8_setUpSetsOfA_30 (by decide) h9a h9b (fun c_4 => ?_) (fun c_4 => ?_)
      · have hw := hw.1 c_4
        refine lv_aload_n hx hb dX8_setUpSetsOfA_59 rfl (lv_at hl 1 rfl) ?_
        refine cw_get (ci := 7) (v := .ref (r y1 7)) hx hb hts hin7 hown hK hP hO_2.1 hO_2.2 rfl 7 (by decide) (hts (.fieldLink RX8 162 "HiddenMoves$Side" "parentLines" "[I") (List.mem_cons_of_mem _ (List.mem_append_left _ (List.mem_append_left _ (List.mem_append_left _ (List.mem_of_getElem? (i := 4) rfl)))))) (fun _ h9 => h9) rfl dX8_setUpSetsOfA_60 ?_
        refine lv_iload_n hx hb dX8_setUpSetsOfA_63 rfl (lv_at hl 2 rfl) ?_
        obtain ⟨hO_5, hw⟩ := hw
        obtain ⟨h9i, hw⟩ := hw
        refine cw_ild hx hb hK hP hO_5.1 hO_5.2.2 h9i hO_5.2.1 dX8_setUpSetsOfA_64 ?_
        obtain ⟨h9a, hw⟩ := hw
        refine hz_if_ne (tgt := 84) hx hb dX8_setUpSetsOfA_65 (by decide) h9a (fun c_6 => ?_) (fun c_6 => ?_)
        · have hw := hw.1 c_6
          refine lv_aload_n hx hb dX8_setUpSetsOfA_84 rfl (lv_at hl 0 rfl) ?_
          refine lv_iload_n hx hb dX8_setUpSetsOfA_85 rfl (lv_at hl 3 rfl) ?_
          refine lv_aload_n hx hb dX8_setUpSetsOfA_86 rfl (lv_at hl 1 rfl) ?_
          refine cw_get (ci := 7) (v := .ref (r y1 7)) hx hb hts hin7 hown hK hP hO_2.1 hO_2.2 rfl 7 (by decide) (hts (.fieldLink RX8 162 "HiddenMoves$Side" "parentLines" "[I") (List.mem_cons_of_mem _ (List.mem_append_left _ (List.mem_append_left _ (List.mem_append_left _ (List.mem_of_getElem? (i := 4) rfl)))))) (fun _ h9 => h9) rfl dX8_setUpSetsOfA_87 ?_
          refine lv_iload_n hx hb dX8_setUpSetsOfA_90 rfl (lv_at hl 2 rfl) ?_
          obtain ⟨h9i, hw⟩ := hw
          refine cw_ild hx hb hK hP hO_5.1 hO_5.2.2 h9i hO_5.2.1 dX8_setUpSetsOfA_91 ?_
          refine lv_iconst (v := hz_i 1) hx hb dX8_setUpSetsOfA_92 (by decide +kernel) ?_
          refine hz_isub hx hb dX8_setUpSetsOfA_93 ?_
          obtain ⟨hO_8, hw⟩ := hw
          have hFc := cw_free hD hS hA
          obtain ⟨q9, hq9⟩ := cw_at (C := C) (z := z) (r := r) (A := A) hO_8.1 hO_8.2
          refine va_callr (va_runV (As := [.int (hz_i x3), .int (hz_i ((A (r y1 7) (x2.toNat)) - 1))]) (rest := []) ⟨hx, hb, hml, hown, hts⟩ (k_c8_cell l D _ C L K z r A y0 x3 ((A (r y1 7) (x2.toNat)) - 1) _ hw) (cwV 2 hts gX8_setUpSetsOfA_X8_cell rfl rfl rfl (by decide +kernel) ⟨Nat.le_of_ble_eq_true rfl, Nat.le_of_ble_eq_true rfl⟩) ⟨hm_blind, va_recv hK hP (ci := 8) (q0 := q9) rfl hq9, hm_pre hP hK hD hE⟩ rfl rfl hl.1 rfl (lv_room (Nat.le_of_ble_eq_true rfl)) dX8_setUpSetsOfA_94 ⟨Nat.le_of_ble_eq_true rfl, Nat.le_of_ble_eq_true rfl⟩) hS (fun q _ h => hFc q h) hFc (fun u ra t H1 locs ht hvm hw hB hz1 hk1 hS => ?_)
          obtain ⟨rv_7, _, _, _⟩ := u
          obtain ⟨hra, hP, hK1, hD1⟩ := hB
          have hra := hra.symm
          subst hra
          rw [ht] at hP
          have hD := hD1.weaken (fun k q _ h => hFc q.1 h)
          have hP : va_P D vwCl (cw_w C L K z r A) H1 := hP
          have hD : va_D Ad (cw_w C L K z r A) := hD
          generalize H1 = H at hP hS ⊢
          refine W.eq (g2 := F0 m 97 ls [.ref rv_7]) rfl ?_
          refine lv_ldc2 hx hb hown (hts (.constantLong RX8 165 (-1)) (List.mem_cons_of_mem _ (List.mem_append_left _ (List.mem_append_left _ (List.mem_append_left _ (List.mem_of_getElem? (i := 6) rfl)))))) dX8_setUpSetsOfA_97 ?_
          refine hz_asl (b := (-1)) (by decide +kernel) ?_
          obtain ⟨hO_12, hw⟩ := hw
          have hFc := cw_free hD hS hA
          obtain ⟨q9, hq9⟩ := cw_at (C := C) (z := z) (r := r) (A := A) hO_12.1 hO_12.2
          refine va_callv (va_runV (As := [.long (hz_l (-1))]) (rest := []) ⟨hx, hb, hml, hown, hts⟩ (k_c0_put l D _ C L K z r A rv_7 (-1) _ hw) (cwV 1 hts gX8_setUpSetsOfA_X0_put rfl rfl rfl (by decide +kernel) ⟨Nat.le_of_ble_eq_true rfl, Nat.le_of_ble_eq_true rfl⟩) ⟨hm_blind, va_recv hK hP (ci := 0) (q0 := q9) rfl hq9, hm_pre hP hK hD hE⟩ rfl rfl hl.1 rfl (lv_room (Nat.le_of_ble_eq_true rfl)) dX8_setUpSetsOfA_100 ⟨Nat.le_of_ble_eq_true rfl, Nat.le_of_ble_eq_true rfl⟩) hS (fun q _ h => hFc q h) hFc (fun u t H1 locs ht hvm hw hB hz1 hk1 hS => ?_)
          obtain ⟨rv_9, z_10, _, A_11⟩ := u
          obtain ⟨hP, hK1, hD1⟩ := hB
          rw [ht] at hP
          have hD := hD1.weaken (fun k q _ h => hFc q.1 h)
          have hP : va_P D vwCl (cw_w C L K z_10 r A_11) H1 := hP
          have hD : va_D Ad (cw_w C L K z_10 r A_11) := hD
          generalize H1 = H at hP hS ⊢
          refine W.eq (g2 := F0 m 103 ls []) rfl ?_
          exact L103 z_10 A_11 x2 hw H locs ls hP hD hS (lv_sub hl [0, 1, 2] rfl)
        · have hw := hw.2 c_6
          refine lv_aload_n hx hb dX8_setUpSetsOfA_68 rfl (lv_at hl 0 rfl) ?_
          refine lv_iload_n hx hb dX8_setUpSetsOfA_69 rfl (lv_at hl 3 rfl) ?_
          refine lv_aload_n hx hb dX8_setUpSetsOfA_70 rfl (lv_at hl 0 rfl) ?_
          obtain ⟨hO_13, hw⟩ := hw
          refine cw_get (ci := 8) (v := .int (hz_i (z y0 5))) hx hb hts hin8 hown hK hP hO_13.1 hO_13.2 rfl 5 (by decide) (hts (.fieldLink RX8 32 "HiddenMoves$Solver" "columns" "I") (List.mem_cons_of_mem _ (List.mem_append_left _ (List.mem_append_left _ (List.mem_append_left _ (List.mem_of_getElem? (i := 5) rfl)))))) (fun _ h9 => h9) rfl dX8_setUpSetsOfA_71 ?_
          have hFc := cw_free hD hS hA
          obtain ⟨q9, hq9⟩ := cw_at (C := C) (z := z) (r := r) (A := A) hO_13.1 hO_13.2
          refine va_callr (va_runV (As := [.int (hz_i x3), .int (hz_i (z y0 5))]) (rest := []) ⟨hx, hb, hml, hown, hts⟩ (k_c8_cell l D _ C L K z r A y0 x3 (z y0 5) _ hw) (cwV 2 hts gX8_setUpSetsOfA_X8_cell rfl rfl rfl (by decide +kernel) ⟨Nat.le_of_ble_eq_true rfl, Nat.le_of_ble_eq_true rfl⟩) ⟨hm_blind, va_recv hK hP (ci := 8) (q0 := q9) rfl hq9, hm_pre hP hK hD hE⟩ rfl rfl hl.1 rfl (lv_room (Nat.le_of_ble_eq_true rfl)) dX8_setUpSetsOfA_74 ⟨Nat.le_of_ble_eq_true rfl, Nat.le_of_ble_eq_true rfl⟩) hS (fun q _ h => hFc q h) hFc (fun u ra t H1 locs ht hvm hw hB hz1 hk1 hS => ?_)
          obtain ⟨rv_14, _, _, _⟩ := u
          obtain ⟨hra, hP, hK1, hD1⟩ := hB
          have hra := hra.symm
          subst hra
          rw [ht] at hP
          have hD := hD1.weaken (fun k q _ h => hFc q.1 h)
          have hP : va_P D vwCl (cw_w C L K z r A) H1 := hP
          have hD : va_D Ad (cw_w C L K z r A) := hD
          generalize H1 = H at hP hS ⊢
          refine W.eq (g2 := F0 m 77 ls [.ref rv_14]) rfl ?_
          refine lv_lconst (v := hz_l 1) hx hb dX8_setUpSetsOfA_77 (by decide +kernel) ?_
          obtain ⟨hO_18, hw⟩ := hw
          have hFc := cw_free hD hS hA
          obtain ⟨q9, hq9⟩ := cw_at (C := C) (z := z) (r := r) (A := A) hO_18.1 hO_18.2
          refine va_callv (va_runV (As := [.long (hz_l 1)]) (rest := []) ⟨hx, hb, hml, hown, hts⟩ (k_c0_put l D _ C L K z r A rv_14 1 _ hw) (cwV 1 hts gX8_setUpSetsOfA_X0_put rfl rfl rfl (by decide +kernel) ⟨Nat.le_of_ble_eq_true rfl, Nat.le_of_ble_eq_true rfl⟩) ⟨hm_blind, va_recv hK hP (ci := 0) (q0 := q9) rfl hq9, hm_pre hP hK hD hE⟩ rfl rfl hl.1 rfl (lv_room (Nat.le_of_ble_eq_true rfl)) dX8_setUpSetsOfA_78 ⟨Nat.le_of_ble_eq_true rfl, Nat.le_of_ble_eq_true rfl⟩) hS (fun q _ h => hFc q h) hFc (fun u t H1 locs ht hvm hw hB hz1 hk1 hS => ?_)
          obtain ⟨rv_15, z_16, _, A_17⟩ := u
          obtain ⟨hP, hK1, hD1⟩ := hB
          rw [ht] at hP
          have hD := hD1.weaken (fun k q _ h => hFc q.1 h)
          have hP : va_P D vwCl (cw_w C L K z_16 r A_17) H1 := hP
          have hD : va_D Ad (cw_w C L K z_16 r A_17) := hD
          generalize H1 = H at hP hS ⊢
          refine W.eq (g2 := F0 m 81 ls []) rfl ?_
          refine lv_goto (tgt := 103) hx hb dX8_setUpSetsOfA_81 (by decide) ?_
          exact L103 z_16 A_17 x2 hw H locs ls hP hD hS (lv_sub hl [0, 1, 2] rfl)
      · have hw := hw.2 c_4
        refine lv_aload_n hx hb dX8_setUpSetsOfA_33 rfl (lv_at hl 0 rfl) ?_
        refine lv_iload_n hx hb dX8_setUpSetsOfA_34 rfl (lv_at hl 3 rfl) ?_
        refine lv_aload_n hx hb dX8_setUpSetsOfA_35 rfl (lv_at hl 1 rfl) ?_
        refine cw_get (ci := 7) (v := .ref (r y1 6)) hx hb hts hin7 hown hK hP hO_2.1 hO_2.2 rfl 6 (by decide) (hts (.fieldLink RX8 151 "HiddenMoves$Side" "firstLines" "[I") (List.mem_cons_of_mem _ (List.mem_append_left _ (List.mem_append_left _ (List.mem_append_left _ (List.mem_of_getElem? (i := 3) rfl)))))) (fun _ h9 => h9) rfl dX8_setUpSetsOfA_36 ?_
        refine lv_iload_n hx hb dX8_setUpSetsOfA_39 rfl (lv_at hl 2 rfl) ?_
        obtain ⟨hO_19, hw⟩ := hw
        obtain ⟨h9i, hw⟩ := hw
        refine cw_ild hx hb hK hP hO_19.1 hO_19.2.2 h9i hO_19.2.1 dX8_setUpSetsOfA_40 ?_
        refine lv_iload hx hb dX8_setUpSetsOfA_41 (lv_at hl 4 rfl) ?_
        refine hz_iadd hx hb dX8_setUpSetsOfA_43 ?_
        refine lv_iconst (v := hz_i 1) hx hb dX8_setUpSetsOfA_44 (by decide +kernel) ?_
        refine hz_isub hx hb dX8_setUpSetsOfA_45 ?_
        obtain ⟨hO_21, hw⟩ := hw
        have hFc := cw_free hD hS hA
        obtain ⟨q9, hq9⟩ := cw_at (C := C) (z := z) (r := r) (A := A) hO_21.1 hO_21.2
        refine va_callr (va_runV (As := [.int (hz_i x3), .int (hz_i (((A (r y1 6) (x2.toNat)) + x4) - 1))]) (rest := []) ⟨hx, hb, hml, hown, hts⟩ (k_c8_cell l D _ C L K z r A y0 x3 (((A (r y1 6) (x2.toNat)) + x4) - 1) _ hw) (cwV 2 hts gX8_setUpSetsOfA_X8_cell rfl rfl rfl (by decide +kernel) ⟨Nat.le_of_ble_eq_true rfl, Nat.le_of_ble_eq_true rfl⟩) ⟨hm_blind, va_recv hK hP (ci := 8) (q0 := q9) rfl hq9, hm_pre hP hK hD hE⟩ rfl rfl hl.1 rfl (lv_room (Nat.le_of_ble_eq_true rfl)) dX8_setUpSetsOfA_46 ⟨Nat.le_of_ble_eq_true rfl, Nat.le_of_ble_eq_true rfl⟩) hS (fun q _ h => hFc q h) hFc (fun u ra t H1 locs ht hvm hw hB hz1 hk1 hS => ?_)
        obtain ⟨rv_20, _, _, _⟩ := u
        obtain ⟨hra, hP, hK1, hD1⟩ := hB
        have hra := hra.symm
        subst hra
        rw [ht] at hP
        have hD := hD1.weaken (fun k q _ h => hFc q.1 h)
        have hP : va_P D vwCl (cw_w C L K z r A) H1 := hP
        have hD : va_D Ad (cw_w C L K z r A) := hD
        generalize H1 = H at hP hS ⊢
        refine W.eq (g2 := F0 m 49 ls [.ref rv_20]) rfl ?_
        refine lv_lconst (v := hz_l 1) hx hb dX8_setUpSetsOfA_49 (by decide +kernel) ?_
        obtain ⟨hO_25, hw⟩ := hw
        have hFc := cw_free hD hS hA
        obtain ⟨q9, hq9⟩ := cw_at (C := C) (z := z) (r := r) (A := A) hO_25.1 hO_25.2
        refine va_callv (va_runV (As := [.long (hz_l 1)]) (rest := []) ⟨hx, hb, hml, hown, hts⟩ (k_c0_put l D _ C L K z r A rv_20 1 _ hw) (cwV 1 hts gX8_setUpSetsOfA_X0_put rfl rfl rfl (by decide +kernel) ⟨Nat.le_of_ble_eq_true rfl, Nat.le_of_ble_eq_true rfl⟩) ⟨hm_blind, va_recv hK hP (ci := 0) (q0 := q9) rfl hq9, hm_pre hP hK hD hE⟩ rfl rfl hl.1 rfl (lv_room (Nat.le_of_ble_eq_true rfl)) dX8_setUpSetsOfA_50 ⟨Nat.le_of_ble_eq_true rfl, Nat.le_of_ble_eq_true rfl⟩) hS (fun q _ h => hFc q h) hFc (fun u t H1 locs ht hvm hw hB hz1 hk1 hS => ?_)
        obtain ⟨rv_22, z_23, _, A_24⟩ := u
        obtain ⟨hP, hK1, hD1⟩ := hB
        rw [ht] at hP
        have hD := hD1.weaken (fun k q _ h => hFc q.1 h)
        have hP : va_P D vwCl (cw_w C L K z_23 r A_24) H1 := hP
        have hD : va_D Ad (cw_w C L K z_23 r A_24) := hD
        generalize H1 = H at hP hS ⊢
        refine W.eq (g2 := F0 m 53 ls []) rfl ?_
        obtain ⟨x4_26, hx4_26⟩ : ∃ y : Int, y = x4 + 1 := ⟨_, rfl⟩
        have hw := hw x4_26 hx4_26
        refine lv_iinc (v := hz_i x4_26) (lv' := [(4, .int (hz_i x4_26)), (0, .ref y0), (1, .ref y1), (2, .int (hz_i x2)), (3, .int (hz_i x3))]) hx hb dX8_setUpSetsOfA_53 hl (k := 4) rfl (by rw [hx4_26]; exact hz_i_add _ _) (by decide) rfl (fun ls hl => ?_)
        refine lv_goto (tgt := 22) hx hb dX8_setUpSetsOfA_56 (by decide) ?_
        exact (hP22 z_23 A_24 x4_26).mp hw H locs ls hP hD hS (lv_sub hl [1, 2, 3, 4, 0] rfl)
    refine lv_iload_n hx hb dX8_setUpSetsOfA_2 rfl (lv_at hl 2 rfl) ?_
    refine lv_aload_n hx hb dX8_setUpSetsOfA_3 rfl (lv_at hl 1 rfl) ?_
    obtain ⟨hO_27, hw⟩ := hw
    refine cw_get (ci := 7) (v := .int (hz_i (z y1 0))) hx hb hts hin7 hown hK hP hO_27.1 hO_27.2 rfl 0 (by decide) (hts (.fieldLink RX8 117 "HiddenMoves$Side" "sets" "I") (List.mem_cons_of_mem _ (List.mem_append_left _ (List.mem_append_left _ (List.mem_append_left _ (List.mem_of_getElem? (i := 0) rfl)))))) (fun _ h9 => h9) rfl dX8_setUpSetsOfA_4 ?_
    obtain ⟨h9a, hw⟩ := hw
    obtain ⟨h9b, hw⟩ := hw
    refine hz_icmp_ge (tgt := 109) hx hb dX8_setUpSetsOfA_7 (by decide) h9a h9b (fun c_28 => ?_) (fun c_28 => ?_)
    · have hw := hw.1 c_28
      subst hQQ
      subst hAe
      exact W.vret hx hb hr (fun t ht hW => ⟨⟨(0, z, r, A), rfl, hw, by rw [ht]; exact hP, va_K.moved hW.alike hK, hD⟩, hS.F ht⟩) hS.2.2 dX8_setUpSetsOfA_109
    · have hw := hw.2 c_28
      refine lv_aload_n hx hb dX8_setUpSetsOfA_10 rfl (lv_at hl 0 rfl) ?_
      obtain ⟨hO_29, hw⟩ := hw
      refine cw_get (ci := 8) (v := .int (hz_i (z y0 7))) hx hb hts hin8 hown hK hP hO_29.1 hO_29.2 rfl 7 (by decide) (hts (.fieldLink RX8 38 "HiddenMoves$Solver" "linesOfB" "I") (List.mem_cons_of_mem _ (List.mem_append_left _ (List.mem_append_left _ (List.mem_append_left _ (List.mem_of_getElem? (i := 1) rfl)))))) (fun _ h9 => h9) rfl dX8_setUpSetsOfA_11 ?_
      refine lv_iconst (v := hz_i 1) hx hb dX8_setUpSetsOfA_14 (by decide +kernel) ?_
      refine hz_isub hx hb dX8_setUpSetsOfA_15 ?_
      refine lv_iload_n hx hb dX8_setUpSetsOfA_16 rfl (lv_at hl 2 rfl) ?_
      refine hz_iadd hx hb dX8_setUpSetsOfA_17 ?_
      refine hz_topi (fun x3_30 hx3_30 => ?_)
      have hw := hw x3_30 hx3_30
      refine lv_istore_n (lv' := [(3, .int (hz_i x3_30)), (0, .ref y0), (1, .ref y1), (2, .int (hz_i x2))]) hx hb dX8_setUpSetsOfA_18 rfl hl (by decide) rfl (fun ls hl => ?_)
      refine lv_iconst (v := hz_i 0) hx hb dX8_setUpSetsOfA_19 (by decide +kernel) ?_
      refine lv_istore (lv' := [(4, .int (hz_i 0)), (3, .int (hz_i x3_30)), (0, .ref y0), (1, .ref y1), (2, .int (hz_i x2))]) hx hb dX8_setUpSetsOfA_20 hl (by decide) rfl (fun ls hl => ?_)
      exact L22 z A x2 x3_30 0 hw H locs ls hP hD hS (lv_sub hl [2, 3, 4, 1, 0] rfl)
  have hP := hP0; have hD := hD0; have hS := hS0; have hl := hl0; have hw := hw0
  obtain ⟨H, hH⟩ : ∃ H : Heap, H = s.heap := ⟨_, rfl⟩
  obtain ⟨locs, hlocs⟩ : ∃ L : List Loc, L = [] := ⟨_, rfl⟩
  rw [← hH] at hP
  have hS : va_S Ad s.heap H locs := by rw [hH, hlocs]; exact hS
  refine mw_HL hH hlocs ?_
  refine lv_iconst (v := hz_i 0) hx hb dX8_setUpSetsOfA_0 (by decide +kernel) ?_
  refine lv_istore_n (lv' := [(2, .int (hz_i 0)), (0, .ref y0), (1, .ref y1)]) hx hb dX8_setUpSetsOfA_1 rfl hl (by decide) rfl (fun ls hl => ?_)
  exact L2 z A 0 hw H locs ls hP hD hS (lv_sub hl [1, 2, 0] rfl)

noncomputable def wp_c7_countChildren_25 (L : List Nat) (K : Nat → cw_K) (z : Nat → Nat → Int) (r : Nat → Nat → Nat) (A : Nat → Nat → Int) (y0 : Nat) (y1 : Int) (x2 : Int) (x3 : Int) (P4 : Int → Int → Prop) (Q : Int → Prop) : Prop := ∀ x3_1 : Int, x3_1 = x3 + 1 → P4 x2 x3_1
noncomputable def wp_c7_countChildren_4 (L : List Nat) (K : Nat → cw_K) (z : Nat → Nat → Int) (r : Nat → Nat → Nat) (A : Nat → Nat → Int) (y0 : Nat) (y1 : Int) (x2 : Int) (x3 : Int) (Q : Int → Prop) : Prop := ∀ P4 : Int → Int → Prop, (∀ (x2 : Int) (x3 : Int), cw_O L K 7 y0 ∧ hz_rI x3 ∧ hz_rI (z y0 0) ∧ ((z y0 0 ≤ x3 → Q x2) ∧ (¬ (z y0 0 ≤ x3) → cw_A L K 0 (r y0 7) ∧ ((0 : Int) ≤ x3 ∧ x3 < (cw_n K (r y0 7) : Int)) ∧ hz_rI (A (r y0 7) (x3.toNat)) ∧ hz_rI y1 ∧ ((¬ A (r y0 7) (x3.toNat) = y1 → wp_c7_countChildren_25 L K z r A y0 y1 x2 x3 P4 Q) ∧ (A (r y0 7) (x3.toNat) = y1 → ∀ x2_6 : Int, x2_6 = x2 + 1 → wp_c7_countChildren_25 L K z r A y0 y1 x2_6 x3 P4 Q)))) → P4 x2 x3) → P4 x2 x3
noncomputable def wp_c7_countChildren (L : List Nat) (K : Nat → cw_K) (z : Nat → Nat → Int) (r : Nat → Nat → Nat) (A : Nat → Nat → Int) (y0 : Nat) (y1 : Int) (Q : Int → Prop) : Prop := wp_c7_countChildren_4 L K z r A y0 y1 0 0  Q
set_option maxHeartbeats 4000000 in
set_option maxRecDepth 100000 in
theorem k_c7_countChildren (l : Launch) (D : va_G) (sz : Nat) (C : Nat → ClassId) (L : List Nat) (K : Nat → cw_K) (z : Nat → Nat → Int) (r : Nat → Nat → Nat) (A : Nat → Nat → Int) (y0 : Nat) (y1 : Int) (Q : Int → Prop) (hw : wp_c7_countChildren L K z r A y0 y1 Q) : Met l yX7_countChildren wsX7_countChildren ({ frames := 0, cells := 0, slots := 0, locals := 0 } : Room) (va_Pc [.ref y0, .int (hz_i y1)] (hm_P D (cw_w C L K z r A) (cw_t C) sz)) (va_Qi (S := Int × (Nat → Nat → Int) × (Nat → Nat → Nat) × (Nat → Nat → Int)) (fun r u => r = hz_i u.1 ∧ Q u.1) (fun u t => hm_B D (va_A (cw_w C L K z r A) sz) (cw_w C L K z r A) (cw_t C) t) (va_A (cw_w C L K z r A) sz)) 0 0 (va_A (cw_w C L K z r A) sz) := by
  refine Met.ofW (cc := cX7_countChildren) (maxL := 4) (ret := (some .int)) (by decide) rfl ?_
  intro p e s m args below meth c s₁ B hml hv
  obtain ⟨rfl, hsz, hP, hK, hD0, hE⟩ := hv
  have hx := B.exec
  have hb := B.bytes
  have hr := B.returns
  have hts := atoms_spec (ws := wsX7_countChildren) B.pre
  have hown : s.vm.findClass RX7 = some m.cls := findClass_of_methodNamed B.named
  have hlocks := B.notSynchronized
  have hin7 : ∀ w ∈ u_ws RX7 TX7 8, w ∈ wsX7_countChildren := fun w h => List.mem_cons_of_mem _ (List.mem_append_right _ (h))
  subst hsz
  have hD := hD0.self (sz := s.heap.size)
  generalize hAe : va_A (cw_w C L K z r A) s.heap.size = Ad at hD ⊢
  have hA : ∀ q : Nat, s.heap.size ≤ q → Ad q := fun q h => by rw [← hAe]; exact Or.inr h
  have hS : va_S Ad s.heap s.heap [] := va_S.rf
  have hl := lv_entry ([.ref y0, .int (hz_i y1)]) (n := 4) (Nat.le_of_ble_eq_true rfl)
  rw [lg_entry_eq]
  generalize (lg_sl ([.ref y0, .int (hz_i y1)]) ++ List.replicate (4 - (lg_sl ([.ref y0, .int (hz_i y1)])).length) Slot.unset).toArray = ls at hl ⊢
  have hl : lv_has ls 4 [(0, .ref y0), (1, .int (hz_i y1))] := hl
  refine mw_Q (fun QQ hQQ => ?_)
  have hP0 := hP; have hD0 := hD; have hS0 := hS; have hl0 := hl; have hw0 := hw
  clear hP hD hS hl hw
  have L4 : ∀ (x2 : Int) (x3 : Int), wp_c7_countChildren_4 L K z r A y0 y1 x2 x3  Q → ∀ (H : Heap) (locs : List Loc) (ls : Array Slot), va_P D vwCl (cw_w C L K z r A) H → va_D Ad (cw_w C L K z r A) → va_S Ad s.heap H locs → lv_has ls 4 [(0, .ref y0), (1, .int (hz_i y1)), (2, .int (hz_i x2)), (3, .int (hz_i x3))] → W p l e (headSpec wsX7_countChildren ({ frames := 0, cells := 0, slots := 0, locals := 0 } : Room)).room s m (List.toArray [.ref y0, .int (hz_i y1)]) below meth c H locs 0 0 QQ (F0 m 4 ls []) := by
    intro x2 x3 hw
    obtain ⟨P4, hP4⟩ : ∃ P : Int → Int → Prop, ∀ (x2 : Int) (x3 : Int), P x2 x3 ↔ (∀ (H : Heap) (locs : List Loc) (ls : Array Slot), va_P D vwCl (cw_w C L K z r A) H → va_D Ad (cw_w C L K z r A) → va_S Ad s.heap H locs → lv_has ls 4 [(0, .ref y0), (1, .int (hz_i y1)), (2, .int (hz_i x2)), (3, .int (hz_i x3))] → W p l e (headSpec wsX7_countChildren ({ frames := 0, cells := 0, slots := 0, locals := 0 } : Room)).room s m (List.toArray [.ref y0, .int (hz_i y1)]) below meth c H locs 0 0 QQ (F0 m 4 ls [])) := ⟨fun (x2 : Int) (x3 : Int) => ∀ (H : Heap) (locs : List Loc) (ls : Array Slot), va_P D vwCl (cw_w C L K z r A) H → va_D Ad (cw_w C L K z r A) → va_S Ad s.heap H locs → lv_has ls 4 [(0, .ref y0), (1, .int (hz_i y1)), (2, .int (hz_i x2)), (3, .int (hz_i x3))] → W p l e (headSpec wsX7_countChildren ({ frames := 0, cells := 0, slots := 0, locals := 0 } : Room)).room s m (List.toArray [.ref y0, .int (hz_i y1)]) below meth c H locs 0 0 QQ (F0 m 4 ls []), fun _ _ => Iff.rfl⟩
    refine (hP4 x2 x3).mp (hw P4 ?_)
    intro x2 x3 hw
    refine (hP4 x2 x3).mpr ?_
    intro H locs ls hP hD hS hl
    have L25 : ∀ (x2 : Int) (x3 : Int), wp_c7_countChildren_25 L K z r A y0 y1 x2 x3 P4 Q → ∀ (H : Heap) (locs : List Loc) (ls : Array Slot), va_P D vwCl (cw_w C L K z r A) H → va_D Ad (cw_w C L K z r A) → va_S Ad s.heap H locs → lv_has ls 4 [(0, .ref y0), (1, .int (hz_i y1)), (2, .int (hz_i x2)), (3, .int (hz_i x3))] → W p l e (headSpec wsX7_countChildren ({ frames := 0, cells := 0, slots := 0, locals := 0 } : Room)).room s m (List.toArray [.ref y0, .int (hz_i y1)]) below meth c H locs 0 0 QQ (F0 m 25 ls []) := by
      intro x2 x3 hw H locs ls hP hD hS hl
      obtain ⟨x3_1, hx3_1⟩ : ∃ y : Int, y = x3 + 1 := ⟨_, rfl⟩
      have hw := hw x3_1 hx3_1
      refine lv_iinc (v := hz_i x3_1) (lv' := [(3, .int (hz_i x3_1)), (0, .ref y0), (1, .int (hz_i y1)), (2, .int (hz_i x2))]) hx hb dX7_countChildren_25 hl (k := 3) rfl (by rw [hx3_1]; exact hz_i_add _ _) (by decide) rfl (fun ls hl => ?_)
      refine lv_goto (tgt := 4) hx hb dX7_countChildren_28 (by decide) ?_
      exact (hP4 x2 x3_1).mp hw H locs ls hP hD hS (lv_sub hl [1, 2, 3, 0] rfl)
    refine lv_iload_n hx hb dX7_countChildren_4 rfl (lv_at hl 3 rfl) ?_
    refine lv_aload_n hx hb dX7_countChildren_5 rfl (lv_at hl 0 rfl) ?_
    obtain ⟨hO_2, hw⟩ := hw
    refine cw_get (ci := 7) (v := .int (hz_i (z y0 0))) hx hb hts hin7 hown hK hP hO_2.1 hO_2.2 rfl 0 (by decide) (hts (.fieldLink RX7 9 "HiddenMoves$Side" "sets" "I") (List.mem_cons_of_mem _ (List.mem_append_left _ (List.mem_of_getElem? (i := 0) rfl)))) (fun _ h9 => h9) rfl dX7_countChildren_6 ?_
    obtain ⟨h9a, hw⟩ := hw
    obtain ⟨h9b, hw⟩ := hw
    refine hz_icmp_ge (tgt := 31) hx hb dX7_countChildren_9 (by decide) h9a h9b (fun c_3 => ?_) (fun c_3 => ?_)
    · have hw := hw.1 c_3
      refine lv_iload_n hx hb dX7_countChildren_31 rfl (lv_at hl 2 rfl) ?_
      subst hQQ
      subst hAe
      exact W.iret (v := hz_i x2) hx hb hr (fun t ht hW => ⟨⟨hz_i x2, (x2, z, r, A), rfl, ⟨rfl, hw⟩, by rw [ht]; exact hP, va_K.moved hW.alike hK, hD⟩, hS.F ht⟩) hS.2.2 dX7_countChildren_32
    · have hw := hw.2 c_3
      refine lv_aload_n hx hb dX7_countChildren_12 rfl (lv_at hl 0 rfl) ?_
      refine cw_get (ci := 7) (v := .ref (r y0 7)) hx hb hts hin7 hown hK hP hO_2.1 hO_2.2 rfl 7 (by decide) (hts (.fieldLink RX7 34 "HiddenMoves$Side" "parentLines" "[I") (List.mem_cons_of_mem _ (List.mem_append_left _ (List.mem_of_getElem? (i := 1) rfl)))) (fun _ h9 => h9) rfl dX7_countChildren_13 ?_
      refine lv_iload_n hx hb dX7_countChildren_16 rfl (lv_at hl 3 rfl) ?_
      obtain ⟨hO_4, hw⟩ := hw
      obtain ⟨h9i, hw⟩ := hw
      refine cw_ild hx hb hK hP hO_4.1 hO_4.2.2 h9i hO_4.2.1 dX7_countChildren_17 ?_
      refine lv_iload_n hx hb dX7_countChildren_18 rfl (lv_at hl 1 rfl) ?_
      obtain ⟨h9a, hw⟩ := hw
      obtain ⟨h9b, hw⟩ := hw
      refine hz_icmp_ne (tgt := 25) hx hb dX7_countChildren_19 (by decide) h9a h9b (fun c_5 => ?_) (fun c_5 => ?_)
      · have hw := hw.1 c_5
        exact L25 x2 x3 hw H locs ls hP hD hS (lv_sub hl [0, 1, 2, 3] rfl)
      · have hw := hw.2 c_5
        obtain ⟨x2_6, hx2_6⟩ : ∃ y : Int, y = x2 + 1 := ⟨_, rfl⟩
        have hw := hw x2_6 hx2_6
        refine lv_iinc (v := hz_i x2_6) (lv' := [(2, .int (hz_i x2_6)), (0, .ref y0), (1, .int (hz_i y1)), (3, .int (hz_i x3))]) hx hb dX7_countChildren_22 hl (k := 2) rfl (by rw [hx2_6]; exact hz_i_add _ _) (by decide) rfl (fun ls hl => ?_)
        exact L25 x2_6 x3 hw H locs ls hP hD hS (lv_sub hl [1, 2, 0, 3] rfl)
  have hP := hP0; have hD := hD0; have hS := hS0; have hl := hl0; have hw := hw0
  obtain ⟨H, hH⟩ : ∃ H : Heap, H = s.heap := ⟨_, rfl⟩
  obtain ⟨locs, hlocs⟩ : ∃ L : List Loc, L = [] := ⟨_, rfl⟩
  rw [← hH] at hP
  have hS : va_S Ad s.heap H locs := by rw [hH, hlocs]; exact hS
  refine mw_HL hH hlocs ?_
  refine lv_iconst (v := hz_i 0) hx hb dX7_countChildren_0 (by decide +kernel) ?_
  refine lv_istore_n (lv' := [(2, .int (hz_i 0)), (0, .ref y0), (1, .int (hz_i y1))]) hx hb dX7_countChildren_1 rfl hl (by decide) rfl (fun ls hl => ?_)
  refine lv_iconst (v := hz_i 0) hx hb dX7_countChildren_2 (by decide +kernel) ?_
  refine lv_istore_n (lv' := [(3, .int (hz_i 0)), (2, .int (hz_i 0)), (0, .ref y0), (1, .int (hz_i y1))]) hx hb dX7_countChildren_3 rfl hl (by decide) rfl (fun ls hl => ?_)
  exact L4 0 0 hw H locs ls hP hD hS (lv_sub hl [2, 3, 1, 0] rfl)

noncomputable def wp_c8_setUpGoal_161 (L : List Nat) (K : Nat → cw_K) (z : Nat → Nat → Int) (r : Nat → Nat → Nat) (A : Nat → Nat → Int) (y0 : Nat) (x5 : Nat) (x6 : Int) (P101 : (Nat → Nat → Int) → (Nat → Nat → Int) → Int → Prop) (Q : (Nat → Nat → Int) → (Nat → Nat → Int) → Prop) : Prop := ∀ x6_1 : Int, x6_1 = x6 + 1 → P101 z A x6_1
noncomputable def wp_c8_setUpGoal_101 (L : List Nat) (K : Nat → cw_K) (z : Nat → Nat → Int) (r : Nat → Nat → Nat) (A : Nat → Nat → Int) (y0 : Nat) (x5 : Nat) (x6 : Int) (Q : (Nat → Nat → Int) → (Nat → Nat → Int) → Prop) : Prop := ∀ P101 : (Nat → Nat → Int) → (Nat → Nat → Int) → Int → Prop, (∀ (z : Nat → Nat → Int) (A : Nat → Nat → Int) (x6 : Int), cw_O L K 7 x5 ∧ hz_rI x6 ∧ hz_rI (z x5 0) ∧ ((z x5 0 ≤ x6 → Q z A) ∧ (¬ (z x5 0 ≤ x6) → cw_A L K 0 (r x5 7) ∧ ((0 : Int) ≤ x6 ∧ x6 < (cw_n K (r x5 7) : Int)) ∧ hz_rI (A (r x5 7) (x6.toNat)) ∧ ((¬ A (r x5 7) (x6.toNat) = 0 → wp_c8_setUpGoal_161 L K z r A y0 x5 x6 P101 Q) ∧ (A (r x5 7) (x6.toNat) = 0 → cw_O L K 8 y0 ∧ wp_c8_cell L K z r A y0 (z y0 4) (((z y0 6) - 1) + x6) (fun rv_7 => cw_O L K 0 rv_7 ∧ wp_c0_put L K z r A rv_7 (-1) (fun z_9 A_10 => cw_A L K 1 (r y0 3) ∧ ((0 : Int) ≤ x6 ∧ x6 < (cw_n K (r y0 3) : Int)) ∧ ∀ z_13 : Nat → Nat → Int, z_13 = cw_s z_9 y0 8 ((z_9 y0 8) - (A_10 (r y0 3) (x6.toNat))) → wp_c8_setUpGoal_161 L K z_13 r A_10 y0 x5 x6 P101 Q)))))) → P101 z A x6) → P101 z A x6
noncomputable def wp_c8_setUpGoal_19 (L : List Nat) (K : Nat → cw_K) (z : Nat → Nat → Int) (r : Nat → Nat → Nat) (A : Nat → Nat → Int) (y0 : Nat) (y1 : Nat) (y2 : Int) (x4 : Nat) (x5 : Nat) (x6 : Int) (Q : (Nat → Nat → Int) → (Nat → Nat → Int) → Prop) : Prop := ∀ P19 : (Nat → Nat → Int) → (Nat → Nat → Int) → Int → Prop, (∀ (z : Nat → Nat → Int) (A : Nat → Nat → Int) (x6 : Int), cw_O L K 8 y0 ∧ hz_rI x6 ∧ hz_rI (z y0 6) ∧ ((z y0 6 ≤ x6 → cw_O L K 2 y1 ∧ cw_G L K 10 (r y1 3) ∧ ((0 : Int) ≤ 0 ∧ 0 < (cw_n K (r y1 3) : Int)) ∧ cw_A L K 1 (cw_g K (r y1 3) ((0 : Int).toNat)) ∧ ((0 : Int) ≤ 0 ∧ 0 < (cw_n K (cw_g K (r y1 3) ((0 : Int).toNat)) : Int)) ∧ cw_O L K 7 x4 ∧ wp_c7_countChildren L K z r A x4 0 (fun rv_19 => hz_rI rv_19 ∧ ∀ x9_21 : Int, hz_rL x9_21 → x9_21 % 18446744073709551616 = ((A (cw_g K (r y1 3) ((0 : Int).toNat)) ((0 : Int).toNat)) - (y2 * rv_19)) % 18446744073709551616 → ∀ z_22 : Nat → Nat → Int, z_22 = cw_s z y0 8 x9_21 → wp_c8_setUpGoal_101 L K z_22 r A y0 x5 0  Q)) ∧ (¬ (z y0 6 ≤ x6) → cw_O L K 2 y1 ∧ cw_G L K 10 (r y1 3) ∧ ((0 : Int) ≤ x6 ∧ x6 < (cw_n K (r y1 3) : Int)) ∧ cw_A L K 1 (cw_g K (r y1 3) (x6.toNat)) ∧ ((0 : Int) ≤ 0 ∧ 0 < (cw_n K (cw_g K (r y1 3) (x6.toNat)) : Int)) ∧ cw_O L K 7 x4 ∧ wp_c7_countChildren L K z r A x4 x6 (fun rv_26 => hz_rI (1 - rv_26) ∧ ∀ x7_28 : Int, x7_28 = (A (cw_g K (r y1 3) (x6.toNat)) ((0 : Int).toNat)) + (y2 * (1 - rv_26)) → wp_c8_cell L K z r A y0 (z y0 4) (x6 - 1) (fun rv_29 => cw_O L K 0 rv_29 ∧ wp_c0_put L K z r A rv_29 (-x7_28) (fun z_31 A_32 => ∀ x6_34 : Int, x6_34 = x6 + 1 → P19 z_31 A_32 x6_34))))) → P19 z A x6) → P19 z A x6
noncomputable def wp_c8_setUpGoal (L : List Nat) (K : Nat → cw_K) (z : Nat → Nat → Int) (r : Nat → Nat → Nat) (A : Nat → Nat → Int) (y0 : Nat) (y1 : Nat) (y2 : Int) (Q : (Nat → Nat → Int) → (Nat → Nat → Int) → Prop) : Prop := cw_O L K 2 y1 ∧ cw_G L K 7 (r y1 1) ∧ ((0 : Int) ≤ 0 ∧ 0 < (cw_n K (r y1 1) : Int)) ∧ ((0 : Int) ≤ 1 ∧ 1 < (cw_n K (r y1 1) : Int)) ∧ wp_c8_setUpGoal_19 L K z r A y0 y1 y2 (cw_g K (r y1 1) ((0 : Int).toNat)) (cw_g K (r y1 1) ((1 : Int).toNat)) 1  Q
set_option maxHeartbeats 4000000 in
set_option maxRecDepth 100000 in
theorem k_c8_setUpGoal (l : Launch) (D : va_G) (sz : Nat) (C : Nat → ClassId) (L : List Nat) (K : Nat → cw_K) (z : Nat → Nat → Int) (r : Nat → Nat → Nat) (A : Nat → Nat → Int) (y0 : Nat) (y1 : Nat) (y2 : Int) (Q : (Nat → Nat → Int) → (Nat → Nat → Int) → Prop) (hw : wp_c8_setUpGoal L K z r A y0 y1 y2 Q) : Met l yX8_setUpGoal wsX8_setUpGoal ({ frames := 1, cells := 0, slots := 0, locals := 25 } : Room) (va_Pc [.ref y0, .ref y1, .long (hz_l y2)] (hm_P D (cw_w C L K z r A) (cw_t C) sz)) (va_Qv (S := Int × (Nat → Nat → Int) × (Nat → Nat → Nat) × (Nat → Nat → Int)) (fun u => Q u.2.1 u.2.2.2) (fun u t => hm_B D (va_A (cw_w C L K z r A) sz) (cw_w C L K u.2.1 r u.2.2.2) (cw_t C) t) (va_A (cw_w C L K z r A) sz)) 0 0 (va_A (cw_w C L K z r A) sz) := by
  refine Met.ofW (cc := cX8_setUpGoal) (maxL := 9) (ret := none) (by decide) rfl ?_
  intro p e s m args below meth c s₁ B hml hv
  obtain ⟨rfl, hsz, hP, hK, hD0, hE⟩ := hv
  have hx := B.exec
  have hb := B.bytes
  have hr := B.returns
  have hts := atoms_spec (ws := wsX8_setUpGoal) B.pre
  have hown : s.vm.findClass RX8 = some m.cls := findClass_of_methodNamed B.named
  have hlocks := B.notSynchronized
  have hin2 : ∀ w ∈ u_ws RX2 TX2 4, w ∈ wsX8_setUpGoal := fun w h => List.mem_cons_of_mem _ (List.mem_append_left _ (List.mem_append_left _ (List.mem_append_left _ (List.mem_append_right _ (h)))))
  have hin7 : ∀ w ∈ u_ws RX7 TX7 8, w ∈ wsX8_setUpGoal := fun w h => List.mem_cons_of_mem _ (List.mem_append_left _ (List.mem_append_right _ (h)))
  have hin8 : ∀ w ∈ u_ws RX8 TX8 13, w ∈ wsX8_setUpGoal := fun w h => List.mem_cons_of_mem _ (List.mem_append_left _ (List.mem_append_left _ (List.mem_append_right _ (h))))
  subst hsz
  have hD := hD0.self (sz := s.heap.size)
  generalize hAe : va_A (cw_w C L K z r A) s.heap.size = Ad at hD ⊢
  have hA : ∀ q : Nat, s.heap.size ≤ q → Ad q := fun q h => by rw [← hAe]; exact Or.inr h
  have hS : va_S Ad s.heap s.heap [] := va_S.rf
  have hl := lv_entry ([.ref y0, .ref y1, .long (hz_l y2)]) (n := 9) (Nat.le_of_ble_eq_true rfl)
  rw [lg_entry_eq]
  generalize (lg_sl ([.ref y0, .ref y1, .long (hz_l y2)]) ++ List.replicate (9 - (lg_sl ([.ref y0, .ref y1, .long (hz_l y2)])).length) Slot.unset).toArray = ls at hl ⊢
  have hl : lv_has ls 9 [(0, .ref y0), (1, .ref y1), (2, .long (hz_l y2))] := hl
  refine mw_Q (fun QQ hQQ => ?_)
  have hP0 := hP; have hD0 := hD; have hS0 := hS; have hl0 := hl; have hw0 := hw
  clear hP hD hS hl hw
  have L101 : ∀ (z : Nat → Nat → Int) (A : Nat → Nat → Int) (x5 : Nat) (x6 : Int), wp_c8_setUpGoal_101 L K z r A y0 x5 x6  Q → ∀ (H : Heap) (locs : List Loc) (ls : Array Slot), va_P D vwCl (cw_w C L K z r A) H → va_D Ad (cw_w C L K z r A) → va_S Ad s.heap H locs → lv_has ls 9 [(0, .ref y0), (5, .ref x5), (6, .int (hz_i x6))] → W p l e (headSpec wsX8_setUpGoal ({ frames := 1, cells := 0, slots := 0, locals := 25 } : Room)).room s m (List.toArray [.ref y0, .ref y1, .long (hz_l y2)]) below meth c H locs 0 0 QQ (F0 m 101 ls []) := by
    intro z A x5 x6 hw
    obtain ⟨P101, hP101⟩ : ∃ P : (Nat → Nat → Int) → (Nat → Nat → Int) → Int → Prop, ∀ (z : Nat → Nat → Int) (A : Nat → Nat → Int) (x6 : Int), P z A x6 ↔ (∀ (H : Heap) (locs : List Loc) (ls : Array Slot), va_P D vwCl (cw_w C L K z r A) H → va_D Ad (cw_w C L K z r A) → va_S Ad s.heap H locs → lv_has ls 9 [(0, .ref y0), (5, .ref x5), (6, .int (hz_i x6))] → W p l e (headSpec wsX8_setUpGoal ({ frames := 1, cells := 0, slots := 0, locals := 25 } : Room)).room s m (List.toArray [.ref y0, .ref y1, .long (hz_l y2)]) below meth c H locs 0 0 QQ (F0 m 101 ls [])) := ⟨fun (z : Nat → Nat → Int) (A : Nat → Nat → Int) (x6 : Int) => ∀ (H : Heap) (locs : List Loc) (ls : Array Slot), va_P D vwCl (cw_w C L K z r A) H → va_D Ad (cw_w C L K z r A) → va_S Ad s.heap H locs → lv_has ls 9 [(0, .ref y0), (5, .ref x5), (6, .int (hz_i x6))] → W p l e (headSpec wsX8_setUpGoal ({ frames := 1, cells := 0, slots := 0, locals := 25 } : Room)).room s m (List.toArray [.ref y0, .ref y1, .long (hz_l y2)]) below meth c H locs 0 0 QQ (F0 m 101 ls []), fun _ _ _ => Iff.rfl⟩
    refine (hP101 z A x6).mp (hw P101 ?_)
    intro z A x6 hw
    refine (hP101 z A x6).mpr ?_
    intro H locs ls hP hD hS hl
    have L161 : ∀ (z : Nat → Nat → Int) (A : Nat → Nat → Int) (x6 : Int), wp_c8_setUpGoal_161 L K z r A y0 x5 x6 P101 Q → ∀ (H : Heap) (locs : List Loc) (ls : Array Slot), va_P D vwCl (cw_w C L K z r A) H → va_D Ad (cw_w C L K z r A) → va_S Ad s.heap H locs → lv_has ls 9 [(0, .ref y0), (5, .ref x5), (6, .int (hz_i x6))] → W p l e (headSpec wsX8_setUpGoal ({ frames := 1, cells := 0, slots := 0, locals := 25 } : Room)).room s m (List.toArray [.ref y0, .ref y1, .long (hz_l y2)]) below meth c H locs 0 0 QQ (F0 m 161 ls []) := by
      intro z A x6 hw H locs ls hP hD hS hl
      obtain ⟨x6_1, hx6_1⟩ : ∃ y : Int, y = x6 + 1 := ⟨_, rfl⟩
      have hw := hw x6_1 hx6_1
      refine lv_iinc (v := hz_i x6_1) (lv' := [(6, .int (hz_i x6_1)), (0, .ref y0), (5, .ref x5)]) hx hb dX8_setUpGoal_161 hl (k := 2) rfl (by rw [hx6_1]; exact hz_i_add _ _) (by decide) rfl (fun ls hl => ?_)
      refine lv_goto (tgt := 101) hx hb dX8_setUpGoal_164 (by decide) ?_
      exact (hP101 z A x6_1).mp hw H locs ls hP hD hS (lv_sub hl [1, 2, 0] rfl)
    refine lv_iload hx hb dX8_setUpGoal_101 (lv_at hl 2 rfl) ?_
    refine lv_aload hx hb dX8_setUpGoal_103 (lv_at hl 1 rfl) ?_
    obtain ⟨hO_2, hw⟩ := hw
    refine cw_get (ci := 7) (v := .int (hz_i (z x5 0))) hx hb hts hin7 hown hK hP hO_2.1 hO_2.2 rfl 0 (by decide) (hts (.fieldLink RX8 117 "HiddenMoves$Side" "sets" "I") (List.mem_cons_of_mem _ (List.mem_append_left _ (List.mem_append_left _ (List.mem_append_left _ (List.mem_append_left _ (List.mem_append_left _ (List.mem_of_getElem? (i := 5) rfl)))))))) (fun _ h9 => h9) rfl dX8_setUpGoal_105 ?_
    obtain ⟨h9a, hw⟩ := hw
    obtain ⟨h9b, hw⟩ := hw
    refine hz_icmp_ge (tgt := 167) hx hb dX8_setUpGoal_108 (by decide) h9a h9b (fun c_3 => ?_) (fun c_3 => ?_)
    · have hw := hw.1 c_3
      subst hQQ
      subst hAe
      exact W.vret hx hb hr (fun t ht hW => ⟨⟨(0, z, r, A), rfl, hw, by rw [ht]; exact hP, va_K.moved hW.alike hK, hD⟩, hS.F ht⟩) hS.2.2 dX8_setUpGoal_167
    · have hw := hw.2 c_3
      refine lv_aload hx hb dX8_setUpGoal_111 (lv_at hl 1 rfl) ?_
      refine cw_get (ci := 7) (v := .ref (r x5 7)) hx hb hts hin7 hown hK hP hO_2.1 hO_2.2 rfl 7 (by decide) (hts (.fieldLink RX8 162 "HiddenMoves$Side" "parentLines" "[I") (List.mem_cons_of_mem _ (List.mem_append_left _ (List.mem_append_left _ (List.mem_append_left _ (List.mem_append_left _ (List.mem_append_left _ (List.mem_of_getElem? (i := 6) rfl)))))))) (fun _ h9 => h9) rfl dX8_setUpGoal_113 ?_
      refine lv_iload hx hb dX8_setUpGoal_116 (lv_at hl 2 rfl) ?_
      obtain ⟨hO_4, hw⟩ := hw
      obtain ⟨h9i, hw⟩ := hw
      refine cw_ild hx hb hK hP hO_4.1 hO_4.2.2 h9i hO_4.2.1 dX8_setUpGoal_118 ?_
      obtain ⟨h9a, hw⟩ := hw
      refine hz_if_ne (tgt := 161) hx hb dX8_setUpGoal_119 (by decide) h9a (fun c_5 => ?_) (fun c_5 => ?_)
      · have hw := hw.1 c_5
        exact L161 z A x6 hw H locs ls hP hD hS (lv_sub hl [0, 1, 2] rfl)
      · have hw := hw.2 c_5
        refine lv_aload_n hx hb dX8_setUpGoal_122 rfl (lv_at hl 0 rfl) ?_
        refine lv_aload_n hx hb dX8_setUpGoal_123 rfl (lv_at hl 0 rfl) ?_
        obtain ⟨hO_6, hw⟩ := hw
        refine cw_get (ci := 8) (v := .int (hz_i (z y0 4))) hx hb hts hin8 hown hK hP hO_6.1 hO_6.2 rfl 4 (by decide) (hts (.fieldLink RX8 28 "HiddenMoves$Solver" "rows" "I") (List.mem_cons_of_mem _ (List.mem_append_left _ (List.mem_append_left _ (List.mem_append_left _ (List.mem_append_left _ (List.mem_append_left _ (List.mem_of_getElem? (i := 3) rfl)))))))) (fun _ h9 => h9) rfl dX8_setUpGoal_124 ?_
        refine lv_aload_n hx hb dX8_setUpGoal_127 rfl (lv_at hl 0 rfl) ?_
        refine cw_get (ci := 8) (v := .int (hz_i (z y0 6))) hx hb hts hin8 hown hK hP hO_6.1 hO_6.2 rfl 6 (by decide) (hts (.fieldLink RX8 35 "HiddenMoves$Solver" "linesOfA" "I") (List.mem_cons_of_mem _ (List.mem_append_left _ (List.mem_append_left _ (List.mem_append_left _ (List.mem_append_left _ (List.mem_append_left _ (List.mem_of_getElem? (i := 1) rfl)))))))) (fun _ h9 => h9) rfl dX8_setUpGoal_128 ?_
        refine lv_iconst (v := hz_i 1) hx hb dX8_setUpGoal_131 (by decide +kernel) ?_
        refine hz_isub hx hb dX8_setUpGoal_132 ?_
        refine lv_iload hx hb dX8_setUpGoal_133 (lv_at hl 2 rfl) ?_
        refine hz_iadd hx hb dX8_setUpGoal_135 ?_
        have hFc := cw_free hD hS hA
        obtain ⟨q9, hq9⟩ := cw_at (C := C) (z := z) (r := r) (A := A) hO_6.1 hO_6.2
        refine va_callr (va_runV (As := [.int (hz_i (z y0 4)), .int (hz_i (((z y0 6) - 1) + x6))]) (rest := []) ⟨hx, hb, hml, hown, hts⟩ (k_c8_cell l D _ C L K z r A y0 (z y0 4) (((z y0 6) - 1) + x6) _ hw) (cwV 2 hts gX8_setUpGoal_X8_cell rfl rfl rfl (by decide +kernel) ⟨Nat.le_of_ble_eq_true rfl, Nat.le_of_ble_eq_true rfl⟩) ⟨hm_blind, va_recv hK hP (ci := 8) (q0 := q9) rfl hq9, hm_pre hP hK hD hE⟩ rfl rfl hl.1 rfl (lv_room (Nat.le_of_ble_eq_true rfl)) dX8_setUpGoal_136 ⟨Nat.le_of_ble_eq_true rfl, Nat.le_of_ble_eq_true rfl⟩) hS (fun q _ h => hFc q h) hFc (fun u ra t H1 locs ht hvm hw hB hz1 hk1 hS => ?_)
        obtain ⟨rv_7, _, _, _⟩ := u
        obtain ⟨hra, hP, hK1, hD1⟩ := hB
        have hra := hra.symm
        subst hra
        rw [ht] at hP
        have hD := hD1.weaken (fun k q _ h => hFc q.1 h)
        have hP : va_P D vwCl (cw_w C L K z r A) H1 := hP
        have hD : va_D Ad (cw_w C L K z r A) := hD
        generalize H1 = H at hP hS ⊢
        refine W.eq (g2 := F0 m 139 ls [.ref rv_7]) rfl ?_
        refine lv_ldc2 hx hb hown (hts (.constantLong RX8 165 (-1)) (List.mem_cons_of_mem _ (List.mem_append_left _ (List.mem_append_left _ (List.mem_append_left _ (List.mem_append_left _ (List.mem_append_left _ (List.mem_of_getElem? (i := 7) rfl)))))))) dX8_setUpGoal_139 ?_
        refine hz_asl (b := (-1)) (by decide +kernel) ?_
        obtain ⟨hO_11, hw⟩ := hw
        have hFc := cw_free hD hS hA
        obtain ⟨q9, hq9⟩ := cw_at (C := C) (z := z) (r := r) (A := A) hO_11.1 hO_11.2
        refine va_callv (va_runV (As := [.long (hz_l (-1))]) (rest := []) ⟨hx, hb, hml, hown, hts⟩ (k_c0_put l D _ C L K z r A rv_7 (-1) _ hw) (cwV 1 hts gX8_setUpGoal_X0_put rfl rfl rfl (by decide +kernel) ⟨Nat.le_of_ble_eq_true rfl, Nat.le_of_ble_eq_true rfl⟩) ⟨hm_blind, va_recv hK hP (ci := 0) (q0 := q9) rfl hq9, hm_pre hP hK hD hE⟩ rfl rfl hl.1 rfl (lv_room (Nat.le_of_ble_eq_true rfl)) dX8_setUpGoal_142 ⟨Nat.le_of_ble_eq_true rfl, Nat.le_of_ble_eq_true rfl⟩) hS (fun q _ h => hFc q h) hFc (fun u t H1 locs ht hvm hw hB hz1 hk1 hS => ?_)
        obtain ⟨rv_8, z_9, _, A_10⟩ := u
        obtain ⟨hP, hK1, hD1⟩ := hB
        rw [ht] at hP
        have hD := hD1.weaken (fun k q _ h => hFc q.1 h)
        have hP : va_P D vwCl (cw_w C L K z_9 r A_10) H1 := hP
        have hD : va_D Ad (cw_w C L K z_9 r A_10) := hD
        generalize H1 = H at hP hS ⊢
        refine W.eq (g2 := F0 m 145 ls []) rfl ?_
        refine lv_aload_n hx hb dX8_setUpGoal_145 rfl (lv_at hl 0 rfl) ?_
        refine lv_dup hx hb dX8_setUpGoal_146 rfl ?_
        refine cw_get (ci := 8) (v := .long (hz_l (z_9 y0 8))) hx hb hts hin8 hown hK hP hO_6.1 hO_6.2 rfl 8 (by decide) (hts (.fieldLink RX8 41 "HiddenMoves$Solver" "shift" "J") (List.mem_cons_of_mem _ (List.mem_append_left _ (List.mem_append_left _ (List.mem_append_left _ (List.mem_append_left _ (List.mem_append_left _ (List.mem_of_getElem? (i := 4) rfl)))))))) (fun _ h9 => h9) rfl dX8_setUpGoal_147 ?_
        refine lv_aload_n hx hb dX8_setUpGoal_150 rfl (lv_at hl 0 rfl) ?_
        refine cw_get (ci := 8) (v := .ref (r y0 3)) hx hb hts hin8 hown hK hP hO_6.1 hO_6.2 rfl 3 (by decide) (hts (.fieldLink RX8 24 "HiddenMoves$Solver" "floors" "[J") (List.mem_cons_of_mem _ (List.mem_append_left _ (List.mem_append_left _ (List.mem_append_left _ (List.mem_append_left _ (List.mem_append_left _ (List.mem_of_getElem? (i := 8) rfl)))))))) (fun _ h9 => h9) rfl dX8_setUpGoal_151 ?_
        refine lv_iload hx hb dX8_setUpGoal_154 (lv_at hl 2 rfl) ?_
        obtain ⟨hO_12, hw⟩ := hw
        obtain ⟨h9i, hw⟩ := hw
        refine cw_lld hx hb hK hP hO_12.1 hO_12.2.2 h9i hO_12.2.1 dX8_setUpGoal_156 ?_
        refine hz_lsub hx hb dX8_setUpGoal_157 ?_
        refine cw_putz (ci := 8) (ty := .long) (v := .long (hz_l ((z_9 y0 8) - (A_10 (r y0 3) (x6.toNat))))) (x := (z_9 y0 8) - (A_10 (r y0 3) (x6.toNat))) hx hb hts hin8 tyX8 tyX8_ok nmX8 hown hK hP hD hS hO_6.1 hO_6.2 rfl 8 (by decide) (hts (.fieldLink RX8 41 "HiddenMoves$Solver" "shift" "J") (List.mem_cons_of_mem _ (List.mem_append_left _ (List.mem_append_left _ (List.mem_append_left _ (List.mem_append_left _ (List.mem_append_left _ (List.mem_of_getElem? (i := 4) rfl)))))))) (fun _ h9 => h9) rfl (by decide +kernel) rfl rfl (Nat.le_of_ble_eq_true rfl) (cw_z8_8 _ _ _) dX8_setUpGoal_158 (fun H locs hP hD hS => ?_)
        obtain ⟨z_13, hz_13⟩ : ∃ y : Nat → Nat → Int, y = cw_s z_9 y0 8 ((z_9 y0 8) - (A_10 (r y0 3) (x6.toNat))) := ⟨_, rfl⟩
        rw [← hz_13] at hP hD
        have hw := hw z_13 hz_13
        exact L161 z_13 A_10 x6 hw H locs ls hP hD hS (lv_sub hl [0, 1, 2] rfl)
  have L19 : ∀ (z : Nat → Nat → Int) (A : Nat → Nat → Int) (x4 : Nat) (x5 : Nat) (x6 : Int), wp_c8_setUpGoal_19 L K z r A y0 y1 y2 x4 x5 x6  Q → ∀ (H : Heap) (locs : List Loc) (ls : Array Slot), va_P D vwCl (cw_w C L K z r A) H → va_D Ad (cw_w C L K z r A) → va_S Ad s.heap H locs → lv_has ls 9 [(0, .ref y0), (1, .ref y1), (2, .long (hz_l y2)), (4, .ref x4), (5, .ref x5), (6, .int (hz_i x6))] → W p l e (headSpec wsX8_setUpGoal ({ frames := 1, cells := 0, slots := 0, locals := 25 } : Room)).room s m (List.toArray [.ref y0, .ref y1, .long (hz_l y2)]) below meth c H locs 0 0 QQ (F0 m 19 ls []) := by
    intro z A x4 x5 x6 hw
    obtain ⟨P19, hP19⟩ : ∃ P : (Nat → Nat → Int) → (Nat → Nat → Int) → Int → Prop, ∀ (z : Nat → Nat → Int) (A : Nat → Nat → Int) (x6 : Int), P z A x6 ↔ (∀ (H : Heap) (locs : List Loc) (ls : Array Slot), va_P D vwCl (cw_w C L K z r A) H → va_D Ad (cw_w C L K z r A) → va_S Ad s.heap H locs → lv_has ls 9 [(0, .ref y0), (1, .ref y1), (2, .long (hz_l y2)), (4, .ref x4), (5, .ref x5), (6, .int (hz_i x6))] → W p l e (headSpec wsX8_setUpGoal ({ frames := 1, cells := 0, slots := 0, locals := 25 } : Room)).room s m (List.toArray [.ref y0, .ref y1, .long (hz_l y2)]) below meth c H locs 0 0 QQ (F0 m 19 ls [])) := ⟨fun (z : Nat → Nat → Int) (A : Nat → Nat → Int) (x6 : Int) => ∀ (H : Heap) (locs : List Loc) (ls : Array Slot), va_P D vwCl (cw_w C L K z r A) H → va_D Ad (cw_w C L K z r A) → va_S Ad s.heap H locs → lv_has ls 9 [(0, .ref y0), (1, .ref y1), (2, .long (hz_l y2)), (4, .ref x4), (5, .ref x5), (6, .int (hz_i x6))] → W p l e (headSpec wsX8_setUpGoal ({ frames := 1, cells := 0, slots := 0, locals := 25 } : Room)).room s m (List.toArray [.ref y0, .ref y1, .long (hz_l y2)]) below meth c H locs 0 0 QQ (F0 m 19 ls []), fun _ _ _ => Iff.rfl⟩
    refine (hP19 z A x6).mp (hw P19 ?_)
    intro z A x6 hw
    refine (hP19 z A x6).mpr ?_
    intro H locs ls hP hD hS hl
    refine lv_iload hx hb dX8_setUpGoal_19 (lv_at hl 5 rfl) ?_
    refine lv_aload_n hx hb dX8_setUpGoal_21 rfl (lv_at hl 0 rfl) ?_
    obtain ⟨hO_14, hw⟩ := hw
    refine cw_get (ci := 8) (v := .int (hz_i (z y0 6))) hx hb hts hin8 hown hK hP hO_14.1 hO_14.2 rfl 6 (by decide) (hts (.fieldLink RX8 35 "HiddenMoves$Solver" "linesOfA" "I") (List.mem_cons_of_mem _ (List.mem_append_left _ (List.mem_append_left _ (List.mem_append_left _ (List.mem_append_left _ (List.mem_append_left _ (List.mem_of_getElem? (i := 1) rfl)))))))) (fun _ h9 => h9) rfl dX8_setUpGoal_22 ?_
    obtain ⟨h9a, hw⟩ := hw
    obtain ⟨h9b, hw⟩ := hw
    refine hz_icmp_ge (tgt := 76) hx hb dX8_setUpGoal_25 (by decide) h9a h9b (fun c_15 => ?_) (fun c_15 => ?_)
    · have hw := hw.1 c_15
      refine lv_aload_n hx hb dX8_setUpGoal_76 rfl (lv_at hl 0 rfl) ?_
      refine lv_aload_n hx hb dX8_setUpGoal_77 rfl (lv_at hl 1 rfl) ?_
      obtain ⟨hO_16, hw⟩ := hw
      refine cw_get (ci := 2) (v := .ref (r y1 3)) hx hb hts hin2 hown hK hP hO_16.1 hO_16.2 rfl 3 (by decide) (hts (.fieldLink RX8 158 "HiddenMoves$Game" "weights" "[[J") (List.mem_cons_of_mem _ (List.mem_append_left _ (List.mem_append_left _ (List.mem_append_left _ (List.mem_append_left _ (List.mem_append_left _ (List.mem_of_getElem? (i := 2) rfl)))))))) (fun _ h9 => h9) rfl dX8_setUpGoal_78 ?_
      refine lv_iconst (v := hz_i 0) hx hb dX8_setUpGoal_81 (by decide +kernel) ?_
      obtain ⟨hO_17, hw⟩ := hw
      obtain ⟨h9i, hw⟩ := hw
      refine cw_aldJ hx hb hK hP hO_17.1 hO_17.2.2 h9i hO_17.2.1 dX8_setUpGoal_82 ?_
      refine lv_iconst (v := hz_i 0) hx hb dX8_setUpGoal_83 (by decide +kernel) ?_
      obtain ⟨hO_18, hw⟩ := hw
      obtain ⟨h9i, hw⟩ := hw
      refine cw_lld hx hb hK hP hO_18.1 hO_18.2.2 h9i hO_18.2.1 dX8_setUpGoal_84 ?_
      refine lv_lload_n hx hb dX8_setUpGoal_85 rfl (lv_at hl 2 rfl) ?_
      refine lv_aload hx hb dX8_setUpGoal_86 (lv_at hl 3 rfl) ?_
      refine lv_iconst (v := hz_i 0) hx hb dX8_setUpGoal_88 (by decide +kernel) ?_
      obtain ⟨hO_20, hw⟩ := hw
      have hFc := cw_free hD hS hA
      obtain ⟨q9, hq9⟩ := cw_at (C := C) (z := z) (r := r) (A := A) hO_20.1 hO_20.2
      refine va_calli (va_runV (As := [.int (hz_i 0)]) (rest := [.long (hz_l y2), .long (hz_l (A (cw_g K (r y1 3) ((0 : Int).toNat)) ((0 : Int).toNat))), .ref y0]) ⟨hx, hb, hml, hown, hts⟩ (k_c7_countChildren l D _ C L K z r A x4 0 _ hw) (cwV 1 hts gX8_setUpGoal_X7_countChildren rfl rfl rfl (by decide +kernel) ⟨Nat.le_of_ble_eq_true rfl, Nat.le_of_ble_eq_true rfl⟩) ⟨hm_blind, va_recv hK hP (ci := 7) (q0 := q9) rfl hq9, hm_pre hP hK hD hE⟩ rfl rfl hl.1 rfl (lv_room (Nat.le_of_ble_eq_true rfl)) dX8_setUpGoal_89 ⟨Nat.le_of_ble_eq_true rfl, Nat.le_of_ble_eq_true rfl⟩) hS (fun q _ h => hFc q h) hFc (fun rv u t H1 locs ht hvm hw hB hz1 hk1 hS => ?_)
      obtain ⟨rv_19, _, _, _⟩ := u
      obtain ⟨hP, hK1, hD1⟩ := hB
      rw [ht] at hP
      obtain ⟨hrv, hw⟩ := hw
      subst hrv
      have hD := hD1.weaken (fun k q _ h => hFc q.1 h)
      have hP : va_P D vwCl (cw_w C L K z r A) H1 := hP
      have hD : va_D Ad (cw_w C L K z r A) := hD
      generalize H1 = H at hP hS ⊢
      refine W.eq (g2 := F0 m 92 ls [.int (hz_i rv_19), .long (hz_l y2), .long (hz_l (A (cw_g K (r y1 3) ((0 : Int).toNat)) ((0 : Int).toNat))), .ref y0]) rfl ?_
      obtain ⟨h9a, hw⟩ := hw
      refine hz_wi2l hx hb dX8_setUpGoal_92 h9a ?_
      refine hz_lmul hx hb dX8_setUpGoal_93 ?_
      refine hz_lsub hx hb dX8_setUpGoal_94 ?_
      refine cw_nrl (fun x9_21 hx9_21a hx9_21b => ?_)
      have hw := hw x9_21 hx9_21a hx9_21b
      refine cw_putz (ci := 8) (ty := .long) (v := .long (hz_l x9_21)) (x := x9_21) hx hb hts hin8 tyX8 tyX8_ok nmX8 hown hK hP hD hS hO_14.1 hO_14.2 rfl 8 (by decide) (hts (.fieldLink RX8 41 "HiddenMoves$Solver" "shift" "J") (List.mem_cons_of_mem _ (List.mem_append_left _ (List.mem_append_left _ (List.mem_append_left _ (List.mem_append_left _ (List.mem_append_left _ (List.mem_of_getElem? (i := 4) rfl)))))))) (fun _ h9 => h9) rfl (by decide +kernel) rfl rfl (Nat.le_of_ble_eq_true rfl) (cw_z8_8 _ _ _) dX8_setUpGoal_95 (fun H locs hP hD hS => ?_)
      obtain ⟨z_22, hz_22⟩ : ∃ y : Nat → Nat → Int, y = cw_s z y0 8 x9_21 := ⟨_, rfl⟩
      rw [← hz_22] at hP hD
      have hw := hw z_22 hz_22
      refine lv_iconst (v := hz_i 0) hx hb dX8_setUpGoal_98 (by decide +kernel) ?_
      refine lv_istore (lv' := [(6, .int (hz_i 0)), (0, .ref y0), (1, .ref y1), (2, .long (hz_l y2)), (4, .ref x4), (5, .ref x5)]) hx hb dX8_setUpGoal_99 hl (by decide) rfl (fun ls hl => ?_)
      exact L101 z_22 A x5 0 hw H locs ls hP hD hS (lv_sub hl [1, 5, 0] rfl)
    · have hw := hw.2 c_15
      refine lv_aload_n hx hb dX8_setUpGoal_28 rfl (lv_at hl 1 rfl) ?_
      obtain ⟨hO_23, hw⟩ := hw
      refine cw_get (ci := 2) (v := .ref (r y1 3)) hx hb hts hin2 hown hK hP hO_23.1 hO_23.2 rfl 3 (by decide) (hts (.fieldLink RX8 158 "HiddenMoves$Game" "weights" "[[J") (List.mem_cons_of_mem _ (List.mem_append_left _ (List.mem_append_left _ (List.mem_append_left _ (List.mem_append_left _ (List.mem_append_left _ (List.mem_of_getElem? (i := 2) rfl)))))))) (fun _ h9 => h9) rfl dX8_setUpGoal_29 ?_
      refine lv_iload hx hb dX8_setUpGoal_32 (lv_at hl 5 rfl) ?_
      obtain ⟨hO_24, hw⟩ := hw
      obtain ⟨h9i, hw⟩ := hw
      refine cw_aldJ hx hb hK hP hO_24.1 hO_24.2.2 h9i hO_24.2.1 dX8_setUpGoal_34 ?_
      refine lv_iconst (v := hz_i 0) hx hb dX8_setUpGoal_35 (by decide +kernel) ?_
      obtain ⟨hO_25, hw⟩ := hw
      obtain ⟨h9i, hw⟩ := hw
      refine cw_lld hx hb hK hP hO_25.1 hO_25.2.2 h9i hO_25.2.1 dX8_setUpGoal_36 ?_
      refine lv_lload_n hx hb dX8_setUpGoal_37 rfl (lv_at hl 2 rfl) ?_
      refine lv_iconst (v := hz_i 1) hx hb dX8_setUpGoal_38 (by decide +kernel) ?_
      refine lv_aload hx hb dX8_setUpGoal_39 (lv_at hl 3 rfl) ?_
      refine lv_iload hx hb dX8_setUpGoal_41 (lv_at hl 5 rfl) ?_
      obtain ⟨hO_27, hw⟩ := hw
      have hFc := cw_free hD hS hA
      obtain ⟨q9, hq9⟩ := cw_at (C := C) (z := z) (r := r) (A := A) hO_27.1 hO_27.2
      refine va_calli (va_runV (As := [.int (hz_i x6)]) (rest := [.int (hz_i 1), .long (hz_l y2), .long (hz_l (A (cw_g K (r y1 3) (x6.toNat)) ((0 : Int).toNat)))]) ⟨hx, hb, hml, hown, hts⟩ (k_c7_countChildren l D _ C L K z r A x4 x6 _ hw) (cwV 1 hts gX8_setUpGoal_X7_countChildren rfl rfl rfl (by decide +kernel) ⟨Nat.le_of_ble_eq_true rfl, Nat.le_of_ble_eq_true rfl⟩) ⟨hm_blind, va_recv hK hP (ci := 7) (q0 := q9) rfl hq9, hm_pre hP hK hD hE⟩ rfl rfl hl.1 rfl (lv_room (Nat.le_of_ble_eq_true rfl)) dX8_setUpGoal_43 ⟨Nat.le_of_ble_eq_true rfl, Nat.le_of_ble_eq_true rfl⟩) hS (fun q _ h => hFc q h) hFc (fun rv u t H1 locs ht hvm hw hB hz1 hk1 hS => ?_)
      obtain ⟨rv_26, _, _, _⟩ := u
      obtain ⟨hP, hK1, hD1⟩ := hB
      rw [ht] at hP
      obtain ⟨hrv, hw⟩ := hw
      subst hrv
      have hD := hD1.weaken (fun k q _ h => hFc q.1 h)
      have hP : va_P D vwCl (cw_w C L K z r A) H1 := hP
      have hD : va_D Ad (cw_w C L K z r A) := hD
      generalize H1 = H at hP hS ⊢
      refine W.eq (g2 := F0 m 46 ls [.int (hz_i rv_26), .int (hz_i 1), .long (hz_l y2), .long (hz_l (A (cw_g K (r y1 3) (x6.toNat)) ((0 : Int).toNat)))]) rfl ?_
      refine hz_isub hx hb dX8_setUpGoal_46 ?_
      obtain ⟨h9a, hw⟩ := hw
      refine hz_wi2l hx hb dX8_setUpGoal_47 h9a ?_
      refine hz_lmul hx hb dX8_setUpGoal_48 ?_
      refine hz_ladd hx hb dX8_setUpGoal_49 ?_
      refine hz_topl (fun x7_28 hx7_28 => ?_)
      have hw := hw x7_28 hx7_28
      refine lv_lstore (lv' := [(7, .long (hz_l x7_28)), (0, .ref y0), (1, .ref y1), (2, .long (hz_l y2)), (4, .ref x4), (5, .ref x5), (6, .int (hz_i x6))]) hx hb dX8_setUpGoal_50 hl (by decide) rfl (fun ls hl => ?_)
      refine lv_aload_n hx hb dX8_setUpGoal_52 rfl (lv_at hl 1 rfl) ?_
      refine lv_aload_n hx hb dX8_setUpGoal_53 rfl (lv_at hl 1 rfl) ?_
      refine cw_get (ci := 8) (v := .int (hz_i (z y0 4))) hx hb hts hin8 hown hK hP hO_14.1 hO_14.2 rfl 4 (by decide) (hts (.fieldLink RX8 28 "HiddenMoves$Solver" "rows" "I") (List.mem_cons_of_mem _ (List.mem_append_left _ (List.mem_append_left _ (List.mem_append_left _ (List.mem_append_left _ (List.mem_append_left _ (List.mem_of_getElem? (i := 3) rfl)))))))) (fun _ h9 => h9) rfl dX8_setUpGoal_54 ?_
      refine lv_iload hx hb dX8_setUpGoal_57 (lv_at hl 6 rfl) ?_
      refine lv_iconst (v := hz_i 1) hx hb dX8_setUpGoal_59 (by decide +kernel) ?_
      refine hz_isub hx hb dX8_setUpGoal_60 ?_
      have hFc := cw_free hD hS hA
      obtain ⟨q9, hq9⟩ := cw_at (C := C) (z := z) (r := r) (A := A) hO_14.1 hO_14.2
      refine va_callr (va_runV (As := [.int (hz_i (z y0 4)), .int (hz_i (x6 - 1))]) (rest := []) ⟨hx, hb, hml, hown, hts⟩ (k_c8_cell l D _ C L K z r A y0 (z y0 4) (x6 - 1) _ hw) (cwV 2 hts gX8_setUpGoal_X8_cell rfl rfl rfl (by decide +kernel) ⟨Nat.le_of_ble_eq_true rfl, Nat.le_of_ble_eq_true rfl⟩) ⟨hm_blind, va_recv hK hP (ci := 8) (q0 := q9) rfl hq9, hm_pre hP hK hD hE⟩ rfl rfl hl.1 rfl (lv_room (Nat.le_of_ble_eq_true rfl)) dX8_setUpGoal_61 ⟨Nat.le_of_ble_eq_true rfl, Nat.le_of_ble_eq_true rfl⟩) hS (fun q _ h => hFc q h) hFc (fun u ra t H1 locs ht hvm hw hB hz1 hk1 hS => ?_)
      obtain ⟨rv_29, _, _, _⟩ := u
      obtain ⟨hra, hP, hK1, hD1⟩ := hB
      have hra := hra.symm
      subst hra
      rw [ht] at hP
      have hD := hD1.weaken (fun k q _ h => hFc q.1 h)
      have hP : va_P D vwCl (cw_w C L K z r A) H1 := hP
      have hD : va_D Ad (cw_w C L K z r A) := hD
      generalize H1 = H at hP hS ⊢
      refine W.eq (g2 := F0 m 64 ls [.ref rv_29]) rfl ?_
      refine lv_lload hx hb dX8_setUpGoal_64 (lv_at hl 0 rfl) ?_
      refine hz_lneg hx hb dX8_setUpGoal_66 ?_
      obtain ⟨hO_33, hw⟩ := hw
      have hFc := cw_free hD hS hA
      obtain ⟨q9, hq9⟩ := cw_at (C := C) (z := z) (r := r) (A := A) hO_33.1 hO_33.2
      refine va_callv (va_runV (As := [.long (hz_l (-x7_28))]) (rest := []) ⟨hx, hb, hml, hown, hts⟩ (k_c0_put l D _ C L K z r A rv_29 (-x7_28) _ hw) (cwV 1 hts gX8_setUpGoal_X0_put rfl rfl rfl (by decide +kernel) ⟨Nat.le_of_ble_eq_true rfl, Nat.le_of_ble_eq_true rfl⟩) ⟨hm_blind, va_recv hK hP (ci := 0) (q0 := q9) rfl hq9, hm_pre hP hK hD hE⟩ rfl rfl hl.1 rfl (lv_room (Nat.le_of_ble_eq_true rfl)) dX8_setUpGoal_67 ⟨Nat.le_of_ble_eq_true rfl, Nat.le_of_ble_eq_true rfl⟩) hS (fun q _ h => hFc q h) hFc (fun u t H1 locs ht hvm hw hB hz1 hk1 hS => ?_)
      obtain ⟨rv_30, z_31, _, A_32⟩ := u
      obtain ⟨hP, hK1, hD1⟩ := hB
      rw [ht] at hP
      have hD := hD1.weaken (fun k q _ h => hFc q.1 h)
      have hP : va_P D vwCl (cw_w C L K z_31 r A_32) H1 := hP
      have hD : va_D Ad (cw_w C L K z_31 r A_32) := hD
      generalize H1 = H at hP hS ⊢
      refine W.eq (g2 := F0 m 70 ls []) rfl ?_
      obtain ⟨x6_34, hx6_34⟩ : ∃ y : Int, y = x6 + 1 := ⟨_, rfl⟩
      have hw := hw x6_34 hx6_34
      refine lv_iinc (v := hz_i x6_34) (lv' := [(6, .int (hz_i x6_34)), (7, .long (hz_l x7_28)), (0, .ref y0), (1, .ref y1), (2, .long (hz_l y2)), (4, .ref x4), (5, .ref x5)]) hx hb dX8_setUpGoal_70 hl (k := 6) rfl (by rw [hx6_34]; exact hz_i_add _ _) (by decide) rfl (fun ls hl => ?_)
      refine lv_goto (tgt := 19) hx hb dX8_setUpGoal_73 (by decide) ?_
      exact (hP19 z_31 A_32 x6_34).mp hw H locs ls hP hD hS (lv_sub hl [2, 3, 4, 5, 6, 0] rfl)
  have hP := hP0; have hD := hD0; have hS := hS0; have hl := hl0; have hw := hw0
  obtain ⟨H, hH⟩ : ∃ H : Heap, H = s.heap := ⟨_, rfl⟩
  obtain ⟨locs, hlocs⟩ : ∃ L : List Loc, L = [] := ⟨_, rfl⟩
  rw [← hH] at hP
  have hS : va_S Ad s.heap H locs := by rw [hH, hlocs]; exact hS
  refine mw_HL hH hlocs ?_
  refine lv_aload_n hx hb dX8_setUpGoal_0 rfl (lv_at hl 1 rfl) ?_
  obtain ⟨hO_35, hw⟩ := hw
  refine cw_get (ci := 2) (v := .ref (r y1 1)) hx hb hts hin2 hown hK hP hO_35.1 hO_35.2 rfl 1 (by decide) (hts (.fieldLink RX8 106 "HiddenMoves$Game" "sides" "[LHiddenMoves$Side;") (List.mem_cons_of_mem _ (List.mem_append_left _ (List.mem_append_left _ (List.mem_append_left _ (List.mem_append_left _ (List.mem_append_left _ (List.mem_of_getElem? (i := 0) rfl)))))))) (fun _ h9 => h9) rfl dX8_setUpGoal_1 ?_
  refine lv_iconst (v := hz_i 0) hx hb dX8_setUpGoal_4 (by decide +kernel) ?_
  obtain ⟨hO_36, hw⟩ := hw
  obtain ⟨h9i, hw⟩ := hw
  refine cw_ald hx hb hK hP hO_36.1 hO_36.2.2 rfl h9i hO_36.2.1 dX8_setUpGoal_5 ?_
  refine lv_astore (lv' := [(4, .ref (cw_g K (r y1 1) ((0 : Int).toNat))), (0, .ref y0), (1, .ref y1), (2, .long (hz_l y2))]) hx hb dX8_setUpGoal_6 hl (by decide) rfl (fun ls hl => ?_)
  refine lv_aload_n hx hb dX8_setUpGoal_8 rfl (lv_at hl 2 rfl) ?_
  refine cw_get (ci := 2) (v := .ref (r y1 1)) hx hb hts hin2 hown hK hP hO_35.1 hO_35.2 rfl 1 (by decide) (hts (.fieldLink RX8 106 "HiddenMoves$Game" "sides" "[LHiddenMoves$Side;") (List.mem_cons_of_mem _ (List.mem_append_left _ (List.mem_append_left _ (List.mem_append_left _ (List.mem_append_left _ (List.mem_append_left _ (List.mem_of_getElem? (i := 0) rfl)))))))) (fun _ h9 => h9) rfl dX8_setUpGoal_9 ?_
  refine lv_iconst (v := hz_i 1) hx hb dX8_setUpGoal_12 (by decide +kernel) ?_
  obtain ⟨h9i, hw⟩ := hw
  refine cw_ald hx hb hK hP hO_36.1 hO_36.2.2 rfl h9i hO_36.2.1 dX8_setUpGoal_13 ?_
  refine lv_astore (lv' := [(5, .ref (cw_g K (r y1 1) ((1 : Int).toNat))), (4, .ref (cw_g K (r y1 1) ((0 : Int).toNat))), (0, .ref y0), (1, .ref y1), (2, .long (hz_l y2))]) hx hb dX8_setUpGoal_14 hl (by decide) rfl (fun ls hl => ?_)
  refine lv_iconst (v := hz_i 1) hx hb dX8_setUpGoal_16 (by decide +kernel) ?_
  refine lv_istore (lv' := [(6, .int (hz_i 1)), (5, .ref (cw_g K (r y1 1) ((1 : Int).toNat))), (4, .ref (cw_g K (r y1 1) ((0 : Int).toNat))), (0, .ref y0), (1, .ref y1), (2, .long (hz_l y2))]) hx hb dX8_setUpGoal_17 hl (by decide) rfl (fun ls hl => ?_)
  exact L19 z A (cw_g K (r y1 1) ((0 : Int).toNat)) (cw_g K (r y1 1) ((1 : Int).toNat)) 1 hw H locs ls hP hD hS (lv_sub hl [3, 4, 5, 2, 1, 0] rfl)

noncomputable def wp_c8_setUp (L : List Nat) (K : Nat → cw_K) (z : Nat → Nat → Int) (r : Nat → Nat → Nat) (A : Nat → Nat → Int) (y0 : Nat) (y1 : Nat) (Q : (Nat → Nat → Int) → (Nat → Nat → Int) → Prop) : Prop := cw_O L K 2 y1 ∧ cw_G L K 7 (r y1 1) ∧ ((0 : Int) ≤ 0 ∧ 0 < (cw_n K (r y1 1) : Int)) ∧ cw_O L K 7 (cw_g K (r y1 1) ((0 : Int).toNat)) ∧ cw_O L K 8 y0 ∧ ∀ z_5 : Nat → Nat → Int, z_5 = cw_s z y0 6 (z (cw_g K (r y1 1) ((0 : Int).toNat)) 5) → ((0 : Int) ≤ 1 ∧ 1 < (cw_n K (r y1 1) : Int)) ∧ cw_O L K 7 (cw_g K (r y1 1) ((1 : Int).toNat)) ∧ ∀ z_7 : Nat → Nat → Int, z_7 = cw_s z_5 y0 7 (z_5 (cw_g K (r y1 1) ((1 : Int).toNat)) 5) → ((0 : Int) ≤ 0 ∧ 0 < (cw_n K (r y1 1) : Int)) ∧ ∀ z_8 : Nat → Nat → Int, z_8 = cw_s z_7 y0 4 (((z_7 y0 7) - 1) + (z_7 (cw_g K (r y1 1) ((0 : Int).toNat)) 0)) → ((0 : Int) ≤ 1 ∧ 1 < (cw_n K (r y1 1) : Int)) ∧ ∀ z_9 : Nat → Nat → Int, z_9 = cw_s z_8 y0 5 (((z_8 y0 6) - 1) + (z_8 (cw_g K (r y1 1) ((1 : Int).toNat)) 0)) → wp_c2_sumOfSizes L K z_9 r A y1 (fun rv_10 => ∀ x2_11 : Int, x2_11 = rv_10 + 1 → wp_c8_clear L K z_9 r A y0 (fun z_13 A_14 => ((0 : Int) ≤ 1 ∧ 1 < (cw_n K (r y1 1) : Int)) ∧ wp_c8_setFloors L K z_13 r A_14 y0 (cw_g K (r y1 1) ((1 : Int).toNat)) x2_11 (fun A_16 => wp_c8_setUpLinesOfB L K z_13 r A_16 y0 y1 (fun z_18 A_19 => ((0 : Int) ≤ 0 ∧ 0 < (cw_n K (r y1 1) : Int)) ∧ wp_c8_setUpSetsOfA L K z_18 r A_19 y0 (cw_g K (r y1 1) ((0 : Int).toNat)) (fun z_21 A_22 => wp_c8_setUpGoal L K z_21 r A_22 y0 y1 x2_11 (fun z_24 A_25 => Q z_24 A_25))))))
set_option maxHeartbeats 4000000 in
set_option maxRecDepth 100000 in
theorem k_c8_setUp (l : Launch) (D : va_G) (sz : Nat) (C : Nat → ClassId) (L : List Nat) (K : Nat → cw_K) (z : Nat → Nat → Int) (r : Nat → Nat → Nat) (A : Nat → Nat → Int) (y0 : Nat) (y1 : Nat) (Q : (Nat → Nat → Int) → (Nat → Nat → Int) → Prop) (hw : wp_c8_setUp L K z r A y0 y1 Q) : Met l yX8_setUp wsX8_setUp ({ frames := 3, cells := 0, slots := 0, locals := 77 } : Room) (va_Pc [.ref y0, .ref y1] (hm_P D (cw_w C L K z r A) (cw_t C) sz)) (va_Qv (S := Int × (Nat → Nat → Int) × (Nat → Nat → Nat) × (Nat → Nat → Int)) (fun u => Q u.2.1 u.2.2.2) (fun u t => hm_B D (va_A (cw_w C L K z r A) sz) (cw_w C L K u.2.1 r u.2.2.2) (cw_t C) t) (va_A (cw_w C L K z r A) sz)) 0 0 (va_A (cw_w C L K z r A) sz) := by
  refine Met.ofW (cc := cX8_setUp) (maxL := 4) (ret := none) (by decide) rfl ?_
  intro p e s m args below meth c s₁ B hml hv
  obtain ⟨rfl, hsz, hP, hK, hD0, hE⟩ := hv
  have hx := B.exec
  have hb := B.bytes
  have hr := B.returns
  have hts := atoms_spec (ws := wsX8_setUp) B.pre
  have hown : s.vm.findClass RX8 = some m.cls := findClass_of_methodNamed B.named
  have hlocks := B.notSynchronized
  have hin2 : ∀ w ∈ u_ws RX2 TX2 4, w ∈ wsX8_setUp := fun w h => List.mem_cons_of_mem _ (List.mem_append_left _ (List.mem_append_left _ (List.mem_append_left _ (List.mem_append_right _ (h)))))
  have hin7 : ∀ w ∈ u_ws RX7 TX7 8, w ∈ wsX8_setUp := fun w h => List.mem_cons_of_mem _ (List.mem_append_left _ (List.mem_append_left _ (List.mem_append_right _ (h))))
  have hin8 : ∀ w ∈ u_ws RX8 TX8 13, w ∈ wsX8_setUp := fun w h => List.mem_cons_of_mem _ (List.mem_append_left _ (List.mem_append_right _ (h)))
  subst hsz
  have hD := hD0.self (sz := s.heap.size)
  generalize hAe : va_A (cw_w C L K z r A) s.heap.size = Ad at hD ⊢
  have hA : ∀ q : Nat, s.heap.size ≤ q → Ad q := fun q h => by rw [← hAe]; exact Or.inr h
  have hS : va_S Ad s.heap s.heap [] := va_S.rf
  have hl := lv_entry ([.ref y0, .ref y1]) (n := 4) (Nat.le_of_ble_eq_true rfl)
  rw [lg_entry_eq]
  generalize (lg_sl ([.ref y0, .ref y1]) ++ List.replicate (4 - (lg_sl ([.ref y0, .ref y1])).length) Slot.unset).toArray = ls at hl ⊢
  have hl : lv_has ls 4 [(0, .ref y0), (1, .ref y1)] := hl
  refine mw_Q (fun QQ hQQ => ?_)
  have hP0 := hP; have hD0 := hD; have hS0 := hS; have hl0 := hl; have hw0 := hw
  clear hP hD hS hl hw
  have hP := hP0; have hD := hD0; have hS := hS0; have hl := hl0; have hw := hw0
  obtain ⟨H, hH⟩ : ∃ H : Heap, H = s.heap := ⟨_, rfl⟩
  obtain ⟨locs, hlocs⟩ : ∃ L : List Loc, L = [] := ⟨_, rfl⟩
  rw [← hH] at hP
  have hS : va_S Ad s.heap H locs := by rw [hH, hlocs]; exact hS
  refine mw_HL hH hlocs ?_
  refine lv_aload_n hx hb dX8_setUp_0 rfl (lv_at hl 0 rfl) ?_
  refine lv_aload_n hx hb dX8_setUp_1 rfl (lv_at hl 1 rfl) ?_
  obtain ⟨hO_1, hw⟩ := hw
  refine cw_get (ci := 2) (v := .ref (r y1 1)) hx hb hts hin2 hown hK hP hO_1.1 hO_1.2 rfl 1 (by decide) (hts (.fieldLink RX8 106 "HiddenMoves$Game" "sides" "[LHiddenMoves$Side;") (List.mem_cons_of_mem _ (List.mem_append_left _ (List.mem_append_left _ (List.mem_append_left _ (List.mem_append_left _ (List.mem_append_left _ (List.mem_of_getElem? (i := 0) rfl)))))))) (fun _ h9 => h9) rfl dX8_setUp_2 ?_
  refine lv_iconst (v := hz_i 0) hx hb dX8_setUp_5 (by decide +kernel) ?_
  obtain ⟨hO_2, hw⟩ := hw
  obtain ⟨h9i, hw⟩ := hw
  refine cw_ald hx hb hK hP hO_2.1 hO_2.2.2 rfl h9i hO_2.2.1 dX8_setUp_6 ?_
  obtain ⟨hO_3, hw⟩ := hw
  refine cw_get (ci := 7) (v := .int (hz_i (z (cw_g K (r y1 1) ((0 : Int).toNat)) 5))) hx hb hts hin7 hown hK hP hO_3.1 hO_3.2 rfl 5 (by decide) (hts (.fieldLink RX8 112 "HiddenMoves$Side" "lines" "I") (List.mem_cons_of_mem _ (List.mem_append_left _ (List.mem_append_left _ (List.mem_append_left _ (List.mem_append_left _ (List.mem_append_left _ (List.mem_of_getElem? (i := 1) rfl)))))))) (fun _ h9 => h9) rfl dX8_setUp_7 ?_
  obtain ⟨hO_4, hw⟩ := hw
  refine cw_putz (ci := 8) (ty := .int) (v := .int (hz_i (z (cw_g K (r y1 1) ((0 : Int).toNat)) 5))) (x := z (cw_g K (r y1 1) ((0 : Int).toNat)) 5) hx hb hts hin8 tyX8 tyX8_ok nmX8 hown hK hP hD hS hO_4.1 hO_4.2 rfl 6 (by decide) (hts (.fieldLink RX8 35 "HiddenMoves$Solver" "linesOfA" "I") (List.mem_cons_of_mem _ (List.mem_append_left _ (List.mem_append_left _ (List.mem_append_left _ (List.mem_append_left _ (List.mem_append_left _ (List.mem_of_getElem? (i := 2) rfl)))))))) (fun _ h9 => h9) rfl (by decide +kernel) rfl rfl (Nat.le_of_ble_eq_true rfl) (cw_z8_6 _ _ _) dX8_setUp_10 (fun H locs hP hD hS => ?_)
  obtain ⟨z_5, hz_5⟩ : ∃ y : Nat → Nat → Int, y = cw_s z y0 6 (z (cw_g K (r y1 1) ((0 : Int).toNat)) 5) := ⟨_, rfl⟩
  rw [← hz_5] at hP hD
  have hw := hw z_5 hz_5
  refine lv_aload_n hx hb dX8_setUp_13 rfl (lv_at hl 0 rfl) ?_
  refine lv_aload_n hx hb dX8_setUp_14 rfl (lv_at hl 1 rfl) ?_
  refine cw_get (ci := 2) (v := .ref (r y1 1)) hx hb hts hin2 hown hK hP hO_1.1 hO_1.2 rfl 1 (by decide) (hts (.fieldLink RX8 106 "HiddenMoves$Game" "sides" "[LHiddenMoves$Side;") (List.mem_cons_of_mem _ (List.mem_append_left _ (List.mem_append_left _ (List.mem_append_left _ (List.mem_append_left _ (List.mem_append_left _ (List.mem_of_getElem? (i := 0) rfl)))))))) (fun _ h9 => h9) rfl dX8_setUp_15 ?_
  refine lv_iconst (v := hz_i 1) hx hb dX8_setUp_18 (by decide +kernel) ?_
  obtain ⟨h9i, hw⟩ := hw
  refine cw_ald hx hb hK hP hO_2.1 hO_2.2.2 rfl h9i hO_2.2.1 dX8_setUp_19 ?_
  obtain ⟨hO_6, hw⟩ := hw
  refine cw_get (ci := 7) (v := .int (hz_i (z_5 (cw_g K (r y1 1) ((1 : Int).toNat)) 5))) hx hb hts hin7 hown hK hP hO_6.1 hO_6.2 rfl 5 (by decide) (hts (.fieldLink RX8 112 "HiddenMoves$Side" "lines" "I") (List.mem_cons_of_mem _ (List.mem_append_left _ (List.mem_append_left _ (List.mem_append_left _ (List.mem_append_left _ (List.mem_append_left _ (List.mem_of_getElem? (i := 1) rfl)))))))) (fun _ h9 => h9) rfl dX8_setUp_20 ?_
  refine cw_putz (ci := 8) (ty := .int) (v := .int (hz_i (z_5 (cw_g K (r y1 1) ((1 : Int).toNat)) 5))) (x := z_5 (cw_g K (r y1 1) ((1 : Int).toNat)) 5) hx hb hts hin8 tyX8 tyX8_ok nmX8 hown hK hP hD hS hO_4.1 hO_4.2 rfl 7 (by decide) (hts (.fieldLink RX8 38 "HiddenMoves$Solver" "linesOfB" "I") (List.mem_cons_of_mem _ (List.mem_append_left _ (List.mem_append_left _ (List.mem_append_left _ (List.mem_append_left _ (List.mem_append_left _ (List.mem_of_getElem? (i := 3) rfl)))))))) (fun _ h9 => h9) rfl (by decide +kernel) rfl rfl (Nat.le_of_ble_eq_true rfl) (cw_z8_7 _ _ _) dX8_setUp_23 (fun H locs hP hD hS => ?_)
  obtain ⟨z_7, hz_7⟩ : ∃ y : Nat → Nat → Int, y = cw_s z_5 y0 7 (z_5 (cw_g K (r y1 1) ((1 : Int).toNat)) 5) := ⟨_, rfl⟩
  rw [← hz_7] at hP hD
  have hw := hw z_7 hz_7
  refine lv_aload_n hx hb dX8_setUp_26 rfl (lv_at hl 0 rfl) ?_
  refine lv_aload_n hx hb dX8_setUp_27 rfl (lv_at hl 0 rfl) ?_
  refine cw_get (ci := 8) (v := .int (hz_i (z_7 y0 7))) hx hb hts hin8 hown hK hP hO_4.1 hO_4.2 rfl 7 (by decide) (hts (.fieldLink RX8 38 "HiddenMoves$Solver" "linesOfB" "I") (List.mem_cons_of_mem _ (List.mem_append_left _ (List.mem_append_left _ (List.mem_append_left _ (List.mem_append_left _ (List.mem_append_left _ (List.mem_of_getElem? (i := 3) rfl)))))))) (fun _ h9 => h9) rfl dX8_setUp_28 ?_
  refine lv_iconst (v := hz_i 1) hx hb dX8_setUp_31 (by decide +kernel) ?_
  refine hz_isub hx hb dX8_setUp_32 ?_
  refine lv_aload_n hx hb dX8_setUp_33 rfl (lv_at hl 1 rfl) ?_
  refine cw_get (ci := 2) (v := .ref (r y1 1)) hx hb hts hin2 hown hK hP hO_1.1 hO_1.2 rfl 1 (by decide) (hts (.fieldLink RX8 106 "HiddenMoves$Game" "sides" "[LHiddenMoves$Side;") (List.mem_cons_of_mem _ (List.mem_append_left _ (List.mem_append_left _ (List.mem_append_left _ (List.mem_append_left _ (List.mem_append_left _ (List.mem_of_getElem? (i := 0) rfl)))))))) (fun _ h9 => h9) rfl dX8_setUp_34 ?_
  refine lv_iconst (v := hz_i 0) hx hb dX8_setUp_37 (by decide +kernel) ?_
  obtain ⟨h9i, hw⟩ := hw
  refine cw_ald hx hb hK hP hO_2.1 hO_2.2.2 rfl h9i hO_2.2.1 dX8_setUp_38 ?_
  refine cw_get (ci := 7) (v := .int (hz_i (z_7 (cw_g K (r y1 1) ((0 : Int).toNat)) 0))) hx hb hts hin7 hown hK hP hO_3.1 hO_3.2 rfl 0 (by decide) (hts (.fieldLink RX8 117 "HiddenMoves$Side" "sets" "I") (List.mem_cons_of_mem _ (List.mem_append_left _ (List.mem_append_left _ (List.mem_append_left _ (List.mem_append_left _ (List.mem_append_left _ (List.mem_of_getElem? (i := 4) rfl)))))))) (fun _ h9 => h9) rfl dX8_setUp_39 ?_
  refine hz_iadd hx hb dX8_setUp_42 ?_
  refine cw_putz (ci := 8) (ty := .int) (v := .int (hz_i (((z_7 y0 7) - 1) + (z_7 (cw_g K (r y1 1) ((0 : Int).toNat)) 0)))) (x := ((z_7 y0 7) - 1) + (z_7 (cw_g K (r y1 1) ((0 : Int).toNat)) 0)) hx hb hts hin8 tyX8 tyX8_ok nmX8 hown hK hP hD hS hO_4.1 hO_4.2 rfl 4 (by decide) (hts (.fieldLink RX8 28 "HiddenMoves$Solver" "rows" "I") (List.mem_cons_of_mem _ (List.mem_append_left _ (List.mem_append_left _ (List.mem_append_left _ (List.mem_append_left _ (List.mem_append_left _ (List.mem_of_getElem? (i := 5) rfl)))))))) (fun _ h9 => h9) rfl (by decide +kernel) rfl rfl (Nat.le_of_ble_eq_true rfl) (cw_z8_4 _ _ _) dX8_setUp_43 (fun H locs hP hD hS => ?_)
  obtain ⟨z_8, hz_8⟩ : ∃ y : Nat → Nat → Int, y = cw_s z_7 y0 4 (((z_7 y0 7) - 1) + (z_7 (cw_g K (r y1 1) ((0 : Int).toNat)) 0)) := ⟨_, rfl⟩
  rw [← hz_8] at hP hD
  have hw := hw z_8 hz_8
  refine lv_aload_n hx hb dX8_setUp_46 rfl (lv_at hl 0 rfl) ?_
  refine lv_aload_n hx hb dX8_setUp_47 rfl (lv_at hl 0 rfl) ?_
  refine cw_get (ci := 8) (v := .int (hz_i (z_8 y0 6))) hx hb hts hin8 hown hK hP hO_4.1 hO_4.2 rfl 6 (by decide) (hts (.fieldLink RX8 35 "HiddenMoves$Solver" "linesOfA" "I") (List.mem_cons_of_mem _ (List.mem_append_left _ (List.mem_append_left _ (List.mem_append_left _ (List.mem_append_left _ (List.mem_append_left _ (List.mem_of_getElem? (i := 2) rfl)))))))) (fun _ h9 => h9) rfl dX8_setUp_48 ?_
  refine lv_iconst (v := hz_i 1) hx hb dX8_setUp_51 (by decide +kernel) ?_
  refine hz_isub hx hb dX8_setUp_52 ?_
  refine lv_aload_n hx hb dX8_setUp_53 rfl (lv_at hl 1 rfl) ?_
  refine cw_get (ci := 2) (v := .ref (r y1 1)) hx hb hts hin2 hown hK hP hO_1.1 hO_1.2 rfl 1 (by decide) (hts (.fieldLink RX8 106 "HiddenMoves$Game" "sides" "[LHiddenMoves$Side;") (List.mem_cons_of_mem _ (List.mem_append_left _ (List.mem_append_left _ (List.mem_append_left _ (List.mem_append_left _ (List.mem_append_left _ (List.mem_of_getElem? (i := 0) rfl)))))))) (fun _ h9 => h9) rfl dX8_setUp_54 ?_
  refine lv_iconst (v := hz_i 1) hx hb dX8_setUp_57 (by decide +kernel) ?_
  obtain ⟨h9i, hw⟩ := hw
  refine cw_ald hx hb hK hP hO_2.1 hO_2.2.2 rfl h9i hO_2.2.1 dX8_setUp_58 ?_
  refine cw_get (ci := 7) (v := .int (hz_i (z_8 (cw_g K (r y1 1) ((1 : Int).toNat)) 0))) hx hb hts hin7 hown hK hP hO_6.1 hO_6.2 rfl 0 (by decide) (hts (.fieldLink RX8 117 "HiddenMoves$Side" "sets" "I") (List.mem_cons_of_mem _ (List.mem_append_left _ (List.mem_append_left _ (List.mem_append_left _ (List.mem_append_left _ (List.mem_append_left _ (List.mem_of_getElem? (i := 4) rfl)))))))) (fun _ h9 => h9) rfl dX8_setUp_59 ?_
  refine hz_iadd hx hb dX8_setUp_62 ?_
  refine cw_putz (ci := 8) (ty := .int) (v := .int (hz_i (((z_8 y0 6) - 1) + (z_8 (cw_g K (r y1 1) ((1 : Int).toNat)) 0)))) (x := ((z_8 y0 6) - 1) + (z_8 (cw_g K (r y1 1) ((1 : Int).toNat)) 0)) hx hb hts hin8 tyX8 tyX8_ok nmX8 hown hK hP hD hS hO_4.1 hO_4.2 rfl 5 (by decide) (hts (.fieldLink RX8 32 "HiddenMoves$Solver" "columns" "I") (List.mem_cons_of_mem _ (List.mem_append_left _ (List.mem_append_left _ (List.mem_append_left _ (List.mem_append_left _ (List.mem_append_left _ (List.mem_of_getElem? (i := 6) rfl)))))))) (fun _ h9 => h9) rfl (by decide +kernel) rfl rfl (Nat.le_of_ble_eq_true rfl) (cw_z8_5 _ _ _) dX8_setUp_63 (fun H locs hP hD hS => ?_)
  obtain ⟨z_9, hz_9⟩ : ∃ y : Nat → Nat → Int, y = cw_s z_8 y0 5 (((z_8 y0 6) - 1) + (z_8 (cw_g K (r y1 1) ((1 : Int).toNat)) 0)) := ⟨_, rfl⟩
  rw [← hz_9] at hP hD
  have hw := hw z_9 hz_9
  refine lv_aload_n hx hb dX8_setUp_66 rfl (lv_at hl 1 rfl) ?_
  have hFc := cw_free hD hS hA
  obtain ⟨q9, hq9⟩ := cw_at (C := C) (z := z_9) (r := r) (A := A) hO_1.1 hO_1.2
  refine va_calll (va_runV (As := []) (rest := []) ⟨hx, hb, hml, hown, hts⟩ (k_c2_sumOfSizes l D _ C L K z_9 r A y1 _ hw) (cwV 0 hts gX8_setUp_X2_sumOfSizes rfl rfl rfl (by decide +kernel) ⟨Nat.le_of_ble_eq_true rfl, Nat.le_of_ble_eq_true rfl⟩) ⟨hm_blind, va_recv hK hP (ci := 2) (q0 := q9) rfl hq9, hm_pre hP hK hD hE⟩ rfl rfl hl.1 rfl (lv_room (Nat.le_of_ble_eq_true rfl)) dX8_setUp_67 ⟨Nat.le_of_ble_eq_true rfl, Nat.le_of_ble_eq_true rfl⟩) hS (fun q _ h => hFc q h) hFc (fun rv u t H1 locs ht hvm hw hB hz1 hk1 hS => ?_)
  obtain ⟨rv_10, _, _, _⟩ := u
  obtain ⟨hP, hK1, hD1⟩ := hB
  rw [ht] at hP
  obtain ⟨hrv, hw⟩ := hw
  subst hrv
  have hD := hD1.weaken (fun k q _ h => hFc q.1 h)
  have hP : va_P D vwCl (cw_w C L K z_9 r A) H1 := hP
  have hD : va_D Ad (cw_w C L K z_9 r A) := hD
  generalize H1 = H at hP hS ⊢
  refine W.eq (g2 := F0 m 70 ls [.long (hz_l rv_10)]) rfl ?_
  refine lv_lconst (v := hz_l 1) hx hb dX8_setUp_70 (by decide +kernel) ?_
  refine hz_ladd hx hb dX8_setUp_71 ?_
  refine hz_topl (fun x2_11 hx2_11 => ?_)
  have hw := hw x2_11 hx2_11
  refine lv_lstore_n (lv' := [(2, .long (hz_l x2_11)), (0, .ref y0), (1, .ref y1)]) hx hb dX8_setUp_72 rfl hl (by decide) rfl (fun ls hl => ?_)
  refine lv_aload_n hx hb dX8_setUp_73 rfl (lv_at hl 1 rfl) ?_
  have hFc := cw_free hD hS hA
  obtain ⟨q9, hq9⟩ := cw_at (C := C) (z := z_9) (r := r) (A := A) hO_4.1 hO_4.2
  refine va_callv (va_runV (As := []) (rest := []) ⟨hx, hb, hml, hown, hts⟩ (k_c8_clear l D _ C L K z_9 r A y0 _ hw) (cwV 0 hts gX8_setUp_X8_clear rfl rfl rfl (by decide +kernel) ⟨Nat.le_of_ble_eq_true rfl, Nat.le_of_ble_eq_true rfl⟩) ⟨hm_blind, va_recv hK hP (ci := 8) (q0 := q9) rfl hq9, hm_pre hP hK hD hE⟩ rfl rfl hl.1 rfl (lv_room (Nat.le_of_ble_eq_true rfl)) dX8_setUp_74 ⟨Nat.le_of_ble_eq_true rfl, Nat.le_of_ble_eq_true rfl⟩) hS (fun q _ h => hFc q h) hFc (fun u t H1 locs ht hvm hw hB hz1 hk1 hS => ?_)
  obtain ⟨rv_12, z_13, _, A_14⟩ := u
  obtain ⟨hP, hK1, hD1⟩ := hB
  rw [ht] at hP
  have hD := hD1.weaken (fun k q _ h => hFc q.1 h)
  have hP : va_P D vwCl (cw_w C L K z_13 r A_14) H1 := hP
  have hD : va_D Ad (cw_w C L K z_13 r A_14) := hD
  generalize H1 = H at hP hS ⊢
  refine W.eq (g2 := F0 m 77 ls []) rfl ?_
  refine lv_aload_n hx hb dX8_setUp_77 rfl (lv_at hl 1 rfl) ?_
  refine lv_aload_n hx hb dX8_setUp_78 rfl (lv_at hl 2 rfl) ?_
  refine cw_get (ci := 2) (v := .ref (r y1 1)) hx hb hts hin2 hown hK hP hO_1.1 hO_1.2 rfl 1 (by decide) (hts (.fieldLink RX8 106 "HiddenMoves$Game" "sides" "[LHiddenMoves$Side;") (List.mem_cons_of_mem _ (List.mem_append_left _ (List.mem_append_left _ (List.mem_append_left _ (List.mem_append_left _ (List.mem_append_left _ (List.mem_of_getElem? (i := 0) rfl)))))))) (fun _ h9 => h9) rfl dX8_setUp_79 ?_
  refine lv_iconst (v := hz_i 1) hx hb dX8_setUp_82 (by decide +kernel) ?_
  obtain ⟨h9i, hw⟩ := hw
  refine cw_ald hx hb hK hP hO_2.1 hO_2.2.2 rfl h9i hO_2.2.1 dX8_setUp_83 ?_
  refine lv_lload_n hx hb dX8_setUp_84 rfl (lv_at hl 0 rfl) ?_
  have hFc := cw_free hD hS hA
  obtain ⟨q9, hq9⟩ := cw_at (C := C) (z := z_13) (r := r) (A := A_14) hO_4.1 hO_4.2
  refine va_callv (va_runV (As := [.ref (cw_g K (r y1 1) ((1 : Int).toNat)), .long (hz_l x2_11)]) (rest := []) ⟨hx, hb, hml, hown, hts⟩ (k_c8_setFloors l D _ C L K z_13 r A_14 y0 (cw_g K (r y1 1) ((1 : Int).toNat)) x2_11 _ hw) (cwV 2 hts gX8_setUp_X8_setFloors rfl rfl rfl (by decide +kernel) ⟨Nat.le_of_ble_eq_true rfl, Nat.le_of_ble_eq_true rfl⟩) ⟨hm_blind, va_recv hK hP (ci := 8) (q0 := q9) rfl hq9, hm_pre hP hK hD hE⟩ rfl rfl hl.1 rfl (lv_room (Nat.le_of_ble_eq_true rfl)) dX8_setUp_85 ⟨Nat.le_of_ble_eq_true rfl, Nat.le_of_ble_eq_true rfl⟩) hS (fun q _ h => hFc q h) hFc (fun u t H1 locs ht hvm hw hB hz1 hk1 hS => ?_)
  obtain ⟨rv_15, _, _, A_16⟩ := u
  obtain ⟨hP, hK1, hD1⟩ := hB
  rw [ht] at hP
  have hD := hD1.weaken (fun k q _ h => hFc q.1 h)
  have hP : va_P D vwCl (cw_w C L K z_13 r A_16) H1 := hP
  have hD : va_D Ad (cw_w C L K z_13 r A_16) := hD
  generalize H1 = H at hP hS ⊢
  refine W.eq (g2 := F0 m 88 ls []) rfl ?_
  refine lv_aload_n hx hb dX8_setUp_88 rfl (lv_at hl 1 rfl) ?_
  refine lv_aload_n hx hb dX8_setUp_89 rfl (lv_at hl 2 rfl) ?_
  have hFc := cw_free hD hS hA
  obtain ⟨q9, hq9⟩ := cw_at (C := C) (z := z_13) (r := r) (A := A_16) hO_4.1 hO_4.2
  refine va_callv (va_runV (As := [.ref y1]) (rest := []) ⟨hx, hb, hml, hown, hts⟩ (k_c8_setUpLinesOfB l D _ C L K z_13 r A_16 y0 y1 _ hw) (cwV 1 hts gX8_setUp_X8_setUpLinesOfB rfl rfl rfl (by decide +kernel) ⟨Nat.le_of_ble_eq_true rfl, Nat.le_of_ble_eq_true rfl⟩) ⟨hm_blind, va_recv hK hP (ci := 8) (q0 := q9) rfl hq9, hm_pre hP hK hD hE⟩ rfl rfl hl.1 rfl (lv_room (Nat.le_of_ble_eq_true rfl)) dX8_setUp_90 ⟨Nat.le_of_ble_eq_true rfl, Nat.le_of_ble_eq_true rfl⟩) hS (fun q _ h => hFc q h) hFc (fun u t H1 locs ht hvm hw hB hz1 hk1 hS => ?_)
  obtain ⟨rv_17, z_18, _, A_19⟩ := u
  obtain ⟨hP, hK1, hD1⟩ := hB
  rw [ht] at hP
  have hD := hD1.weaken (fun k q _ h => hFc q.1 h)
  have hP : va_P D vwCl (cw_w C L K z_18 r A_19) H1 := hP
  have hD : va_D Ad (cw_w C L K z_18 r A_19) := hD
  generalize H1 = H at hP hS ⊢
  refine W.eq (g2 := F0 m 93 ls []) rfl ?_
  refine lv_aload_n hx hb dX8_setUp_93 rfl (lv_at hl 1 rfl) ?_
  refine lv_aload_n hx hb dX8_setUp_94 rfl (lv_at hl 2 rfl) ?_
  refine cw_get (ci := 2) (v := .ref (r y1 1)) hx hb hts hin2 hown hK hP hO_1.1 hO_1.2 rfl 1 (by decide) (hts (.fieldLink RX8 106 "HiddenMoves$Game" "sides" "[LHiddenMoves$Side;") (List.mem_cons_of_mem _ (List.mem_append_left _ (List.mem_append_left _ (List.mem_append_left _ (List.mem_append_left _ (List.mem_append_left _ (List.mem_of_getElem? (i := 0) rfl)))))))) (fun _ h9 => h9) rfl dX8_setUp_95 ?_
  refine lv_iconst (v := hz_i 0) hx hb dX8_setUp_98 (by decide +kernel) ?_
  obtain ⟨h9i, hw⟩ := hw
  refine cw_ald hx hb hK hP hO_2.1 hO_2.2.2 rfl h9i hO_2.2.1 dX8_setUp_99 ?_
  have hFc := cw_free hD hS hA
  obtain ⟨q9, hq9⟩ := cw_at (C := C) (z := z_18) (r := r) (A := A_19) hO_4.1 hO_4.2
  refine va_callv (va_runV (As := [.ref (cw_g K (r y1 1) ((0 : Int).toNat))]) (rest := []) ⟨hx, hb, hml, hown, hts⟩ (k_c8_setUpSetsOfA l D _ C L K z_18 r A_19 y0 (cw_g K (r y1 1) ((0 : Int).toNat)) _ hw) (cwV 1 hts gX8_setUp_X8_setUpSetsOfA rfl rfl rfl (by decide +kernel) ⟨Nat.le_of_ble_eq_true rfl, Nat.le_of_ble_eq_true rfl⟩) ⟨hm_blind, va_recv hK hP (ci := 8) (q0 := q9) rfl hq9, hm_pre hP hK hD hE⟩ rfl rfl hl.1 rfl (lv_room (Nat.le_of_ble_eq_true rfl)) dX8_setUp_100 ⟨Nat.le_of_ble_eq_true rfl, Nat.le_of_ble_eq_true rfl⟩) hS (fun q _ h => hFc q h) hFc (fun u t H1 locs ht hvm hw hB hz1 hk1 hS => ?_)
  obtain ⟨rv_20, z_21, _, A_22⟩ := u
  obtain ⟨hP, hK1, hD1⟩ := hB
  rw [ht] at hP
  have hD := hD1.weaken (fun k q _ h => hFc q.1 h)
  have hP : va_P D vwCl (cw_w C L K z_21 r A_22) H1 := hP
  have hD : va_D Ad (cw_w C L K z_21 r A_22) := hD
  generalize H1 = H at hP hS ⊢
  refine W.eq (g2 := F0 m 103 ls []) rfl ?_
  refine lv_aload_n hx hb dX8_setUp_103 rfl (lv_at hl 1 rfl) ?_
  refine lv_aload_n hx hb dX8_setUp_104 rfl (lv_at hl 2 rfl) ?_
  refine lv_lload_n hx hb dX8_setUp_105 rfl (lv_at hl 0 rfl) ?_
  have hFc := cw_free hD hS hA
  obtain ⟨q9, hq9⟩ := cw_at (C := C) (z := z_21) (r := r) (A := A_22) hO_4.1 hO_4.2
  refine va_callv (va_runV (As := [.ref y1, .long (hz_l x2_11)]) (rest := []) ⟨hx, hb, hml, hown, hts⟩ (k_c8_setUpGoal l D _ C L K z_21 r A_22 y0 y1 x2_11 _ hw) (cwV 2 hts gX8_setUp_X8_setUpGoal rfl rfl rfl (by decide +kernel) ⟨Nat.le_of_ble_eq_true rfl, Nat.le_of_ble_eq_true rfl⟩) ⟨hm_blind, va_recv hK hP (ci := 8) (q0 := q9) rfl hq9, hm_pre hP hK hD hE⟩ rfl rfl hl.1 rfl (lv_room (Nat.le_of_ble_eq_true rfl)) dX8_setUp_106 ⟨Nat.le_of_ble_eq_true rfl, Nat.le_of_ble_eq_true rfl⟩) hS (fun q _ h => hFc q h) hFc (fun u t H1 locs ht hvm hw hB hz1 hk1 hS => ?_)
  obtain ⟨rv_23, z_24, _, A_25⟩ := u
  obtain ⟨hP, hK1, hD1⟩ := hB
  rw [ht] at hP
  have hD := hD1.weaken (fun k q _ h => hFc q.1 h)
  have hP : va_P D vwCl (cw_w C L K z_24 r A_25) H1 := hP
  have hD : va_D Ad (cw_w C L K z_24 r A_25) := hD
  generalize H1 = H at hP hS ⊢
  refine W.eq (g2 := F0 m 109 ls []) rfl ?_
  subst hQQ
  subst hAe
  exact W.vret hx hb hr (fun t ht hW => ⟨⟨(0, z_24, r, A_25), rfl, hw, by rw [ht]; exact hP, va_K.moved hW.alike hK, hD⟩, hS.F ht⟩) hS.2.2 dX8_setUp_109

noncomputable def wp_c8_entering_49 (L : List Nat) (K : Nat → cw_K) (z : Nat → Nat → Int) (r : Nat → Nat → Nat) (A : Nat → Nat → Int) (y0 : Nat) (x1 : Int) (x2 : Int) (P4 : Int → Int → Prop) (Q : Int → Prop) : Prop := ∀ x2_1 : Int, x2_1 = x2 + 1 → P4 x1 x2_1
noncomputable def wp_c8_entering_47 (L : List Nat) (K : Nat → cw_K) (z : Nat → Nat → Int) (r : Nat → Nat → Nat) (A : Nat → Nat → Int) (y0 : Nat) (x2 : Int) (P4 : Int → Int → Prop) (Q : Int → Prop) : Prop := wp_c8_entering_49 L K z r A y0 x2 x2 P4 Q
noncomputable def wp_c8_entering_4 (L : List Nat) (K : Nat → cw_K) (z : Nat → Nat → Int) (r : Nat → Nat → Nat) (A : Nat → Nat → Int) (y0 : Nat) (x1 : Int) (x2 : Int) (Q : Int → Prop) : Prop := ∀ P4 : Int → Int → Prop, (∀ (x1 : Int) (x2 : Int), cw_O L K 8 y0 ∧ hz_rI x2 ∧ hz_rI (z y0 5) ∧ ((z y0 5 ≤ x2 → Q x1) ∧ (¬ (z y0 5 ≤ x2) → wp_c8_cell L K z r A y0 (z y0 4) x2 (fun rv_4 => cw_O L K 0 rv_4 ∧ hz_rI (z rv_4 2) ∧ ((z rv_4 2 = 0 → wp_c8_entering_49 L K z r A y0 x1 x2 P4 Q) ∧ (¬ (z rv_4 2 = 0) → hz_rI x1 ∧ ((x1 = (-1) → wp_c8_entering_47 L K z r A y0 x2 P4 Q) ∧ (¬ (x1 = (-1)) → cw_A L K 0 (r y0 2) ∧ ((0 : Int) ≤ x2 ∧ x2 < (cw_n K (r y0 2) : Int)) ∧ ((0 : Int) ≤ x1 ∧ x1 < (cw_n K (r y0 2) : Int)) ∧ hz_rI (A (r y0 2) (x2.toNat)) ∧ hz_rI (A (r y0 2) (x1.toNat)) ∧ ((A (r y0 2) (x1.toNat) ≤ A (r y0 2) (x2.toNat) → wp_c8_entering_49 L K z r A y0 x1 x2 P4 Q) ∧ (¬ (A (r y0 2) (x1.toNat) ≤ A (r y0 2) (x2.toNat)) → wp_c8_entering_47 L K z r A y0 x2 P4 Q))))))))) → P4 x1 x2) → P4 x1 x2
noncomputable def wp_c8_entering (L : List Nat) (K : Nat → cw_K) (z : Nat → Nat → Int) (r : Nat → Nat → Nat) (A : Nat → Nat → Int) (y0 : Nat) (Q : Int → Prop) : Prop := wp_c8_entering_4 L K z r A y0 (-1) 0  Q
set_option maxHeartbeats 4000000 in
set_option maxRecDepth 100000 in
theorem k_c8_entering (l : Launch) (D : va_G) (sz : Nat) (C : Nat → ClassId) (L : List Nat) (K : Nat → cw_K) (z : Nat → Nat → Int) (r : Nat → Nat → Nat) (A : Nat → Nat → Int) (y0 : Nat) (Q : Int → Prop) (hw : wp_c8_entering L K z r A y0 Q) : Met l yX8_entering wsX8_entering ({ frames := 1, cells := 0, slots := 0, locals := 22 } : Room) (va_Pc [.ref y0] (hm_P D (cw_w C L K z r A) (cw_t C) sz)) (va_Qi (S := Int × (Nat → Nat → Int) × (Nat → Nat → Nat) × (Nat → Nat → Int)) (fun r u => r = hz_i u.1 ∧ Q u.1) (fun u t => hm_B D (va_A (cw_w C L K z r A) sz) (cw_w C L K z r A) (cw_t C) t) (va_A (cw_w C L K z r A) sz)) 0 0 (va_A (cw_w C L K z r A) sz) := by
  refine Met.ofW (cc := cX8_entering) (maxL := 3) (ret := (some .int)) (by decide) rfl ?_
  intro p e s m args below meth c s₁ B hml hv
  obtain ⟨rfl, hsz, hP, hK, hD0, hE⟩ := hv
  have hx := B.exec
  have hb := B.bytes
  have hr := B.returns
  have hts := atoms_spec (ws := wsX8_entering) B.pre
  have hown : s.vm.findClass RX8 = some m.cls := findClass_of_methodNamed B.named
  have hlocks := B.notSynchronized
  have hin0 : ∀ w ∈ u_ws RX0 TX0 3, w ∈ wsX8_entering := fun w h => List.mem_cons_of_mem _ (List.mem_append_right _ (h))
  have hin8 : ∀ w ∈ u_ws RX8 TX8 13, w ∈ wsX8_entering := fun w h => List.mem_cons_of_mem _ (List.mem_append_left _ (List.mem_append_right _ (h)))
  subst hsz
  have hD := hD0.self (sz := s.heap.size)
  generalize hAe : va_A (cw_w C L K z r A) s.heap.size = Ad at hD ⊢
  have hA : ∀ q : Nat, s.heap.size ≤ q → Ad q := fun q h => by rw [← hAe]; exact Or.inr h
  have hS : va_S Ad s.heap s.heap [] := va_S.rf
  have hl := lv_entry ([.ref y0]) (n := 3) (Nat.le_of_ble_eq_true rfl)
  rw [lg_entry_eq]
  generalize (lg_sl ([.ref y0]) ++ List.replicate (3 - (lg_sl ([.ref y0])).length) Slot.unset).toArray = ls at hl ⊢
  have hl : lv_has ls 3 [(0, .ref y0)] := hl
  refine mw_Q (fun QQ hQQ => ?_)
  have hP0 := hP; have hD0 := hD; have hS0 := hS; have hl0 := hl; have hw0 := hw
  clear hP hD hS hl hw
  have L4 : ∀ (x1 : Int) (x2 : Int), wp_c8_entering_4 L K z r A y0 x1 x2  Q → ∀ (H : Heap) (locs : List Loc) (ls : Array Slot), va_P D vwCl (cw_w C L K z r A) H → va_D Ad (cw_w C L K z r A) → va_S Ad s.heap H locs → lv_has ls 3 [(0, .ref y0), (1, .int (hz_i x1)), (2, .int (hz_i x2))] → W p l e (headSpec wsX8_entering ({ frames := 1, cells := 0, slots := 0, locals := 22 } : Room)).room s m (List.toArray [.ref y0]) below meth c H locs 0 0 QQ (F0 m 4 ls []) := by
    intro x1 x2 hw
    obtain ⟨P4, hP4⟩ : ∃ P : Int → Int → Prop, ∀ (x1 : Int) (x2 : Int), P x1 x2 ↔ (∀ (H : Heap) (locs : List Loc) (ls : Array Slot), va_P D vwCl (cw_w C L K z r A) H → va_D Ad (cw_w C L K z r A) → va_S Ad s.heap H locs → lv_has ls 3 [(0, .ref y0), (1, .int (hz_i x1)), (2, .int (hz_i x2))] → W p l e (headSpec wsX8_entering ({ frames := 1, cells := 0, slots := 0, locals := 22 } : Room)).room s m (List.toArray [.ref y0]) below meth c H locs 0 0 QQ (F0 m 4 ls [])) := ⟨fun (x1 : Int) (x2 : Int) => ∀ (H : Heap) (locs : List Loc) (ls : Array Slot), va_P D vwCl (cw_w C L K z r A) H → va_D Ad (cw_w C L K z r A) → va_S Ad s.heap H locs → lv_has ls 3 [(0, .ref y0), (1, .int (hz_i x1)), (2, .int (hz_i x2))] → W p l e (headSpec wsX8_entering ({ frames := 1, cells := 0, slots := 0, locals := 22 } : Room)).room s m (List.toArray [.ref y0]) below meth c H locs 0 0 QQ (F0 m 4 ls []), fun _ _ => Iff.rfl⟩
    refine (hP4 x1 x2).mp (hw P4 ?_)
    intro x1 x2 hw
    refine (hP4 x1 x2).mpr ?_
    intro H locs ls hP hD hS hl
    have L49 : ∀ (x1 : Int) (x2 : Int), wp_c8_entering_49 L K z r A y0 x1 x2 P4 Q → ∀ (H : Heap) (locs : List Loc) (ls : Array Slot), va_P D vwCl (cw_w C L K z r A) H → va_D Ad (cw_w C L K z r A) → va_S Ad s.heap H locs → lv_has ls 3 [(0, .ref y0), (1, .int (hz_i x1)), (2, .int (hz_i x2))] → W p l e (headSpec wsX8_entering ({ frames := 1, cells := 0, slots := 0, locals := 22 } : Room)).room s m (List.toArray [.ref y0]) below meth c H locs 0 0 QQ (F0 m 49 ls []) := by
      intro x1 x2 hw H locs ls hP hD hS hl
      obtain ⟨x2_1, hx2_1⟩ : ∃ y : Int, y = x2 + 1 := ⟨_, rfl⟩
      have hw := hw x2_1 hx2_1
      refine lv_iinc (v := hz_i x2_1) (lv' := [(2, .int (hz_i x2_1)), (0, .ref y0), (1, .int (hz_i x1))]) hx hb dX8_entering_49 hl (k := 2) rfl (by rw [hx2_1]; exact hz_i_add _ _) (by decide) rfl (fun ls hl => ?_)
      refine lv_goto (tgt := 4) hx hb dX8_entering_52 (by decide) ?_
      exact (hP4 x1 x2_1).mp hw H locs ls hP hD hS (lv_sub hl [1, 2, 0] rfl)
    have L47 : ∀ (x2 : Int), wp_c8_entering_47 L K z r A y0 x2 P4 Q → ∀ (H : Heap) (locs : List Loc) (ls : Array Slot), va_P D vwCl (cw_w C L K z r A) H → va_D Ad (cw_w C L K z r A) → va_S Ad s.heap H locs → lv_has ls 3 [(0, .ref y0), (2, .int (hz_i x2))] → W p l e (headSpec wsX8_entering ({ frames := 1, cells := 0, slots := 0, locals := 22 } : Room)).room s m (List.toArray [.ref y0]) below meth c H locs 0 0 QQ (F0 m 47 ls []) := by
      intro x2 hw H locs ls hP hD hS hl
      refine lv_iload_n hx hb dX8_entering_47 rfl (lv_at hl 1 rfl) ?_
      refine lv_istore_n (lv' := [(1, .int (hz_i x2)), (0, .ref y0), (2, .int (hz_i x2))]) hx hb dX8_entering_48 rfl hl (by decide) rfl (fun ls hl => ?_)
      exact L49 x2 x2 hw H locs ls hP hD hS (lv_sub hl [1, 0, 2] rfl)
    refine lv_iload_n hx hb dX8_entering_4 rfl (lv_at hl 2 rfl) ?_
    refine lv_aload_n hx hb dX8_entering_5 rfl (lv_at hl 0 rfl) ?_
    obtain ⟨hO_2, hw⟩ := hw
    refine cw_get (ci := 8) (v := .int (hz_i (z y0 5))) hx hb hts hin8 hown hK hP hO_2.1 hO_2.2 rfl 5 (by decide) (hts (.fieldLink RX8 32 "HiddenMoves$Solver" "columns" "I") (List.mem_cons_of_mem _ (List.mem_append_left _ (List.mem_append_left _ (List.mem_of_getElem? (i := 0) rfl))))) (fun _ h9 => h9) rfl dX8_entering_6 ?_
    obtain ⟨h9a, hw⟩ := hw
    obtain ⟨h9b, hw⟩ := hw
    refine hz_icmp_ge (tgt := 55) hx hb dX8_entering_9 (by decide) h9a h9b (fun c_3 => ?_) (fun c_3 => ?_)
    · have hw := hw.1 c_3
      refine lv_iload_n hx hb dX8_entering_55 rfl (lv_at hl 1 rfl) ?_
      subst hQQ
      subst hAe
      exact W.iret (v := hz_i x1) hx hb hr (fun t ht hW => ⟨⟨hz_i x1, (x1, z, r, A), rfl, ⟨rfl, hw⟩, by rw [ht]; exact hP, va_K.moved hW.alike hK, hD⟩, hS.F ht⟩) hS.2.2 dX8_entering_56
    · have hw := hw.2 c_3
      refine lv_aload_n hx hb dX8_entering_12 rfl (lv_at hl 0 rfl) ?_
      refine lv_aload_n hx hb dX8_entering_13 rfl (lv_at hl 0 rfl) ?_
      refine cw_get (ci := 8) (v := .int (hz_i (z y0 4))) hx hb hts hin8 hown hK hP hO_2.1 hO_2.2 rfl 4 (by decide) (hts (.fieldLink RX8 28 "HiddenMoves$Solver" "rows" "I") (List.mem_cons_of_mem _ (List.mem_append_left _ (List.mem_append_left _ (List.mem_of_getElem? (i := 1) rfl))))) (fun _ h9 => h9) rfl dX8_entering_14 ?_
      refine lv_iload_n hx hb dX8_entering_17 rfl (lv_at hl 2 rfl) ?_
      have hFc := cw_free hD hS hA
      obtain ⟨q9, hq9⟩ := cw_at (C := C) (z := z) (r := r) (A := A) hO_2.1 hO_2.2
      refine va_callr (va_runV (As := [.int (hz_i (z y0 4)), .int (hz_i x2)]) (rest := []) ⟨hx, hb, hml, hown, hts⟩ (k_c8_cell l D _ C L K z r A y0 (z y0 4) x2 _ hw) (cwV 2 hts gX8_entering_X8_cell rfl rfl rfl (by decide +kernel) ⟨Nat.le_of_ble_eq_true rfl, Nat.le_of_ble_eq_true rfl⟩) ⟨hm_blind, va_recv hK hP (ci := 8) (q0 := q9) rfl hq9, hm_pre hP hK hD hE⟩ rfl rfl hl.1 rfl (lv_room (Nat.le_of_ble_eq_true rfl)) dX8_entering_18 ⟨Nat.le_of_ble_eq_true rfl, Nat.le_of_ble_eq_true rfl⟩) hS (fun q _ h => hFc q h) hFc (fun u ra t H1 locs ht hvm hw hB hz1 hk1 hS => ?_)
      obtain ⟨rv_4, _, _, _⟩ := u
      obtain ⟨hra, hP, hK1, hD1⟩ := hB
      have hra := hra.symm
      subst hra
      rw [ht] at hP
      have hD := hD1.weaken (fun k q _ h => hFc q.1 h)
      have hP : va_P D vwCl (cw_w C L K z r A) H1 := hP
      have hD : va_D Ad (cw_w C L K z r A) := hD
      generalize H1 = H at hP hS ⊢
      refine W.eq (g2 := F0 m 21 ls [.ref rv_4]) rfl ?_
      obtain ⟨hO_5, hw⟩ := hw
      refine cw_get (ci := 0) (v := .int (hz_i (z rv_4 2))) hx hb hts hin0 hown hK hP hO_5.1 hO_5.2 rfl 2 (by decide) (hts (.fieldLink RX8 170 "HiddenMoves$Big" "below" "Z") (List.mem_cons_of_mem _ (List.mem_append_left _ (List.mem_append_left _ (List.mem_of_getElem? (i := 2) rfl))))) (fun _ h9 => h9) rfl dX8_entering_21 ?_
      obtain ⟨h9a, hw⟩ := hw
      refine hz_if_eq (tgt := 49) hx hb dX8_entering_24 (by decide) h9a (fun c_6 => ?_) (fun c_6 => ?_)
      · have hw := hw.1 c_6
        exact L49 x1 x2 hw H locs ls hP hD hS (lv_sub hl [0, 1, 2] rfl)
      · have hw := hw.2 c_6
        refine lv_iload_n hx hb dX8_entering_27 rfl (lv_at hl 1 rfl) ?_
        refine lv_iconst (v := hz_i (-1)) hx hb dX8_entering_28 (by decide +kernel) ?_
        obtain ⟨h9a, hw⟩ := hw
        refine hz_icmp_eq (tgt := 47) hx hb dX8_entering_29 (by decide) h9a ⟨by decide, by decide⟩ (fun c_7 => ?_) (fun c_7 => ?_)
        · have hw := hw.1 c_7
          exact L47 x2 hw H locs ls hP hD hS (lv_sub hl [0, 2] rfl)
        · have hw := hw.2 c_7
          refine lv_aload_n hx hb dX8_entering_32 rfl (lv_at hl 0 rfl) ?_
          refine cw_get (ci := 8) (v := .ref (r y0 2)) hx hb hts hin8 hown hK hP hO_2.1 hO_2.2 rfl 2 (by decide) (hts (.fieldLink RX8 21 "HiddenMoves$Solver" "columnUnknowns" "[I") (List.mem_cons_of_mem _ (List.mem_append_left _ (List.mem_append_left _ (List.mem_of_getElem? (i := 3) rfl))))) (fun _ h9 => h9) rfl dX8_entering_33 ?_
          refine lv_iload_n hx hb dX8_entering_36 rfl (lv_at hl 2 rfl) ?_
          obtain ⟨hO_8, hw⟩ := hw
          obtain ⟨h9i, hw⟩ := hw
          refine cw_ild hx hb hK hP hO_8.1 hO_8.2.2 h9i hO_8.2.1 dX8_entering_37 ?_
          refine lv_aload_n hx hb dX8_entering_38 rfl (lv_at hl 0 rfl) ?_
          refine cw_get (ci := 8) (v := .ref (r y0 2)) hx hb hts hin8 hown hK hP hO_2.1 hO_2.2 rfl 2 (by decide) (hts (.fieldLink RX8 21 "HiddenMoves$Solver" "columnUnknowns" "[I") (List.mem_cons_of_mem _ (List.mem_append_left _ (List.mem_append_left _ (List.mem_of_getElem? (i := 3) rfl))))) (fun _ h9 => h9) rfl dX8_entering_39 ?_
          refine lv_iload_n hx hb dX8_entering_42 rfl (lv_at hl 1 rfl) ?_
          obtain ⟨h9i, hw⟩ := hw
          refine cw_ild hx hb hK hP hO_8.1 hO_8.2.2 h9i hO_8.2.1 dX8_entering_43 ?_
          obtain ⟨h9a, hw⟩ := hw
          obtain ⟨h9b, hw⟩ := hw
          refine hz_icmp_ge (tgt := 49) hx hb dX8_entering_44 (by decide) h9a h9b (fun c_9 => ?_) (fun c_9 => ?_)
          · have hw := hw.1 c_9
            exact L49 x1 x2 hw H locs ls hP hD hS (lv_sub hl [0, 1, 2] rfl)
          · have hw := hw.2 c_9
            exact L47 x2 hw H locs ls hP hD hS (lv_sub hl [0, 2] rfl)
  have hP := hP0; have hD := hD0; have hS := hS0; have hl := hl0; have hw := hw0
  obtain ⟨H, hH⟩ : ∃ H : Heap, H = s.heap := ⟨_, rfl⟩
  obtain ⟨locs, hlocs⟩ : ∃ L : List Loc, L = [] := ⟨_, rfl⟩
  rw [← hH] at hP
  have hS : va_S Ad s.heap H locs := by rw [hH, hlocs]; exact hS
  refine mw_HL hH hlocs ?_
  refine lv_iconst (v := hz_i (-1)) hx hb dX8_entering_0 (by decide +kernel) ?_
  refine lv_istore_n (lv' := [(1, .int (hz_i (-1))), (0, .ref y0)]) hx hb dX8_entering_1 rfl hl (by decide) rfl (fun ls hl => ?_)
  refine lv_iconst (v := hz_i 0) hx hb dX8_entering_2 (by decide +kernel) ?_
  refine lv_istore_n (lv' := [(2, .int (hz_i 0)), (1, .int (hz_i (-1))), (0, .ref y0)]) hx hb dX8_entering_3 rfl hl (by decide) rfl (fun ls hl => ?_)
  exact L4 (-1) 0 hw H locs ls hP hD hS (lv_sub hl [2, 1, 0] rfl)
