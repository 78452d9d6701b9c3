-- 17.c04
noncomputable def wp_c1_divide_40 (L : List Nat) (K : Nat → cw_K) (z : Nat → Nat → Int) (r : Nat → Nat → Nat) (A : Nat → Nat → Int) (y0 : Nat) (y1 : Nat) (x2 : Int) (x3 : Int) (Q : (Nat → Nat → Int) → (Nat → Nat → Int) → Prop) : Prop := ∀ P40 : (Nat → Nat → Int) → Int → Prop, (∀ (A : Nat → Nat → Int) (x3 : Int), hz_rI x3 ∧ hz_rI x2 ∧ ((x2 ≤ x3 → cw_O L K 0 y1 ∧ wp_c0_trim L K z r A y1 x2 (fun z_3 => Q z_3 A)) ∧ (¬ (x2 ≤ x3) → cw_O L K 0 y1 ∧ cw_A L K 0 (r y1 0) ∧ ((0 : Int) ≤ x3 ∧ x3 < (cw_n K (r y1 0) : Int)) ∧ cw_O L K 1 y0 ∧ ∀ x4_8 : Int, hz_rI x4_8 → x4_8 % 4294967296 = ((A (r y1 0) (x3.toNat)) * (z y0 2)) % 4294967296 → hz_rI x4_8 ∧ ∀ x9_9 : Int, x9_9 = x4_8 % 4294967296 → wp_c1_takeMultiple L K z r A y0 (r y1 0) x9_9 x3 x2 (fun A_11 => ((0 : Int) ≤ x3 ∧ x3 < (cw_n K (r y1 0) : Int)) ∧ ∀ A_12 : Nat → Nat → Int, A_12 = hz_s A_11 (r y1 0) x3 x4_8 → ∀ x3_13 : Int, x3_13 = x3 + 1 → P40 A_12 x3_13))) → P40 A x3) → P40 A x3
noncomputable def wp_c1_divide (L : List Nat) (K : Nat → cw_K) (z : Nat → Nat → Int) (r : Nat → Nat → Nat) (A : Nat → Nat → Int) (y0 : Nat) (y1 : Nat) (Q : (Nat → Nat → Int) → (Nat → Nat → Int) → Prop) : Prop := cw_O L K 1 y0 ∧ cw_O L K 0 y1 ∧ wp_c0_shiftDown L K z r A y1 (z y0 1) (fun z_16 A_17 => cw_O L K 0 (r y0 0) ∧ wp_c0_isOne L K z_16 r A_17 (r y0 0) (fun rv_19 => hz_rI rv_19 ∧ ((rv_19 = 0 → hz_rI (((z_16 y1 1) - (z_16 (r y0 0) 1)) + 1) ∧ ∀ x9_22 : Int, x9_22 = max (((z_16 y1 1) - (z_16 (r y0 0) 1)) + 1) 0 → wp_c1_divide_40 L K z_16 r A_17 y0 y1 x9_22 0  Q) ∧ (¬ (rv_19 = 0) → Q z_16 A_17))))
set_option maxHeartbeats 4000000 in
set_option maxRecDepth 100000 in
theorem k_c1_divide (l : Launch) (D : va_G) (sz : Nat) (C : Nat → ClassId) (L : List Nat) (K : Nat → cw_K) (z : Nat → Nat → Int) (r : Nat → Nat → Nat) (A : Nat → Nat → Int) (y0 : Nat) (y1 : Nat) (Q : (Nat → Nat → Int) → (Nat → Nat → Int) → Prop) (hw : wp_c1_divide L K z r A y0 y1 Q) : Met l yX1_divide wsX1_divide ({ frames := 2, cells := 0, slots := 0, locals := 53 } : Room) (va_Pc [.ref y0, .ref y1] (hm_P D (cw_w C L K z r A) (cw_t C) sz)) (va_Qv (S := Int × (Nat → Nat → Int) × (Nat → Nat → Nat) × (Nat → Nat → Int)) (fun u => Q u.2.1 u.2.2.2) (fun u t => hm_B D (va_A (cw_w C L K z r A) sz) (cw_w C L K u.2.1 r u.2.2.2) (cw_t C) t) (va_A (cw_w C L K z r A) sz)) 0 0 (va_A (cw_w C L K z r A) sz) := by
  refine Met.ofW (cc := cX1_divide) (maxL := 5) (ret := none) (by decide) rfl ?_
  intro p e s m args below meth c s₁ B hml hv
  obtain ⟨rfl, hsz, hP, hK, hD0, hE⟩ := hv
  have hx := B.exec
  have hb := B.bytes
  have hr := B.returns
  have hts := atoms_spec (ws := wsX1_divide) B.pre
  have hown : s.vm.findClass RX1 = some m.cls := findClass_of_methodNamed B.named
  have hlocks := B.notSynchronized
  have hin0 : ∀ w ∈ u_ws RX0 TX0 3, w ∈ wsX1_divide := fun w h => List.mem_cons_of_mem _ (List.mem_append_right _ (h))
  have hin1 : ∀ w ∈ u_ws RX1 TX1 3, w ∈ wsX1_divide := fun w h => List.mem_cons_of_mem _ (List.mem_append_left _ (List.mem_append_right _ (h)))
  subst hsz
  have hD := hD0.self (sz := s.heap.size)
  generalize hAe : va_A (cw_w C L K z r A) s.heap.size = Ad at hD ⊢
  have hA : ∀ q : Nat, s.heap.size ≤ q → Ad q := fun q h => by rw [← hAe]; exact Or.inr h
  have hS : va_S Ad s.heap s.heap [] := va_S.rf
  have hl := lv_entry ([.ref y0, .ref y1]) (n := 5) (Nat.le_of_ble_eq_true rfl)
  rw [lg_entry_eq]
  generalize (lg_sl ([.ref y0, .ref y1]) ++ List.replicate (5 - (lg_sl ([.ref y0, .ref y1])).length) Slot.unset).toArray = ls at hl ⊢
  have hl : lv_has ls 5 [(0, .ref y0), (1, .ref y1)] := hl
  refine mw_Q (fun QQ hQQ => ?_)
  have hP0 := hP; have hD0 := hD; have hS0 := hS; have hl0 := hl; have hw0 := hw
  clear hP hD hS hl hw
  have L40 : ∀ (z : Nat → Nat → Int) (A : Nat → Nat → Int) (x2 : Int) (x3 : Int), wp_c1_divide_40 L K z r A y0 y1 x2 x3  Q → ∀ (H : Heap) (locs : List Loc) (ls : Array Slot), va_P D vwCl (cw_w C L K z r A) H → va_D Ad (cw_w C L K z r A) → va_S Ad s.heap H locs → lv_has ls 5 [(0, .ref y0), (1, .ref y1), (2, .int (hz_i x2)), (3, .int (hz_i x3))] → W p l e (headSpec wsX1_divide ({ frames := 2, cells := 0, slots := 0, locals := 53 } : Room)).room s m (List.toArray [.ref y0, .ref y1]) below meth c H locs 0 0 QQ (F0 m 40 ls []) := by
    intro z A x2 x3 hw
    obtain ⟨P40, hP40⟩ : ∃ P : (Nat → Nat → Int) → Int → Prop, ∀ (A : Nat → Nat → Int) (x3 : Int), P A x3 ↔ (∀ (H : Heap) (locs : List Loc) (ls : Array Slot), va_P D vwCl (cw_w C L K z r A) H → va_D Ad (cw_w C L K z r A) → va_S Ad s.heap H locs → lv_has ls 5 [(0, .ref y0), (1, .ref y1), (2, .int (hz_i x2)), (3, .int (hz_i x3))] → W p l e (headSpec wsX1_divide ({ frames := 2, cells := 0, slots := 0, locals := 53 } : Room)).room s m (List.toArray [.ref y0, .ref y1]) below meth c H locs 0 0 QQ (F0 m 40 ls [])) := ⟨fun (A : Nat → Nat → Int) (x3 : Int) => ∀ (H : Heap) (locs : List Loc) (ls : Array Slot), va_P D vwCl (cw_w C L K z r A) H → va_D Ad (cw_w C L K z r A) → va_S Ad s.heap H locs → lv_has ls 5 [(0, .ref y0), (1, .ref y1), (2, .int (hz_i x2)), (3, .int (hz_i x3))] → W p l e (headSpec wsX1_divide ({ frames := 2, cells := 0, slots := 0, locals := 53 } : Room)).room s m (List.toArray [.ref y0, .ref y1]) below meth c H locs 0 0 QQ (F0 m 40 ls []), fun _ _ => Iff.rfl⟩
    refine (hP40 A x3).mp (hw P40 ?_)
    intro A x3 hw
    refine (hP40 A x3).mpr ?_
    intro H locs ls hP hD hS hl
    refine lv_iload_n hx hb dX1_divide_40 rfl (lv_at hl 3 rfl) ?_
    refine lv_iload_n hx hb dX1_divide_41 rfl (lv_at hl 2 rfl) ?_
    obtain ⟨h9a, hw⟩ := hw
    obtain ⟨h9b, hw⟩ := hw
    refine hz_icmp_ge (tgt := 89) hx hb dX1_divide_42 (by decide) h9a h9b (fun c_1 => ?_) (fun c_1 => ?_)
    · have hw := hw.1 c_1
      refine lv_aload_n hx hb dX1_divide_89 rfl (lv_at hl 1 rfl) ?_
      refine lv_iload_n hx hb dX1_divide_90 rfl (lv_at hl 2 rfl) ?_
      obtain ⟨hO_4, hw⟩ := hw
      have hFc := cw_free hD hS hA
      obtain ⟨q9, hq9⟩ := cw_at (C := C) (z := z) (r := r) (A := A) hO_4.1 hO_4.2
      refine va_callv (va_runV (As := [.int (hz_i x2)]) (rest := []) ⟨hx, hb, hml, hown, hts⟩ (k_c0_trim l D _ C L K z r A y1 x2 _ hw) (cwV 1 hts gX1_divide_X0_trim rfl rfl rfl (by decide +kernel) ⟨Nat.le_of_ble_eq_true rfl, Nat.le_of_ble_eq_true rfl⟩) ⟨hm_blind, va_recv hK hP (ci := 0) (q0 := q9) rfl hq9, hm_pre hP hK hD hE⟩ rfl rfl hl.1 rfl (lv_room (Nat.le_of_ble_eq_true rfl)) dX1_divide_91 ⟨Nat.le_of_ble_eq_true rfl, Nat.le_of_ble_eq_true rfl⟩) hS (fun q _ h => hFc q h) hFc (fun u t H1 locs ht hvm hw hB hz1 hk1 hS => ?_)
      obtain ⟨rv_2, z_3, _, _⟩ := u
      obtain ⟨hP, hK1, hD1⟩ := hB
      rw [ht] at hP
      have hD := hD1.weaken (fun k q _ h => hFc q.1 h)
      have hP : va_P D vwCl (cw_w C L K z_3 r A) H1 := hP
      have hD : va_D Ad (cw_w C L K z_3 r A) := hD
      generalize H1 = H at hP hS ⊢
      refine W.eq (g2 := F0 m 94 ls []) rfl ?_
      subst hQQ
      subst hAe
      exact W.vret hx hb hr (fun t ht hW => ⟨⟨(0, z_3, r, A), rfl, hw, by rw [ht]; exact hP, va_K.moved hW.alike hK, hD⟩, hS.F ht⟩) hS.2.2 dX1_divide_94
    · have hw := hw.2 c_1
      refine lv_aload_n hx hb dX1_divide_45 rfl (lv_at hl 1 rfl) ?_
      obtain ⟨hO_5, hw⟩ := hw
      refine cw_get (ci := 0) (v := .ref (r y1 0)) hx hb hts hin0 hown hK hP hO_5.1 hO_5.2 rfl 0 (by decide) (hts (.fieldLink RX1 41 "HiddenMoves$Big" "digits" "[I") (List.mem_cons_of_mem _ (List.mem_append_left _ (List.mem_append_left _ (List.mem_append_left _ (List.mem_of_getElem? (i := 7) rfl)))))) (fun _ h9 => h9) rfl dX1_divide_46 ?_
      refine lv_iload_n hx hb dX1_divide_49 rfl (lv_at hl 3 rfl) ?_
      obtain ⟨hO_6, hw⟩ := hw
      obtain ⟨h9i, hw⟩ := hw
      refine cw_ild hx hb hK hP hO_6.1 hO_6.2.2 h9i hO_6.2.1 dX1_divide_50 ?_
      refine lv_aload_n hx hb dX1_divide_51 rfl (lv_at hl 0 rfl) ?_
      obtain ⟨hO_7, hw⟩ := hw
      refine cw_get (ci := 1) (v := .int (hz_i (z y0 2))) hx hb hts hin1 hown hK hP hO_7.1 hO_7.2 rfl 2 (by decide) (hts (.fieldLink RX1 24 "HiddenMoves$Divider" "inverse" "I") (List.mem_cons_of_mem _ (List.mem_append_left _ (List.mem_append_left _ (List.mem_append_left _ (List.mem_of_getElem? (i := 8) rfl)))))) (fun _ h9 => h9) rfl dX1_divide_52 ?_
      refine hz_imul hx hb dX1_divide_55 ?_
      refine cw_nri (fun x4_8 hx4_8a hx4_8b => ?_)
      have hw := hw x4_8 hx4_8a hx4_8b
      refine lv_istore (lv' := [(4, .int (hz_i x4_8)), (0, .ref y0), (1, .ref y1), (2, .int (hz_i x2)), (3, .int (hz_i x3))]) hx hb dX1_divide_56 hl (by decide) rfl (fun ls hl => ?_)
      refine lv_aload_n hx hb dX1_divide_58 rfl (lv_at hl 1 rfl) ?_
      refine lv_aload_n hx hb dX1_divide_59 rfl (lv_at hl 2 rfl) ?_
      refine cw_get (ci := 0) (v := .ref (r y1 0)) hx hb hts hin0 hown hK hP hO_5.1 hO_5.2 rfl 0 (by decide) (hts (.fieldLink RX1 41 "HiddenMoves$Big" "digits" "[I") (List.mem_cons_of_mem _ (List.mem_append_left _ (List.mem_append_left _ (List.mem_append_left _ (List.mem_of_getElem? (i := 7) rfl)))))) (fun _ h9 => h9) rfl dX1_divide_60 ?_
      refine lv_iload hx hb dX1_divide_63 (lv_at hl 0 rfl) ?_
      obtain ⟨h9a, hw⟩ := hw
      refine hz_wi2l hx hb dX1_divide_65 h9a ?_
      refine lv_ldc2 hx hb hown (hts (.constantLong RX1 55 (4294967295)) (List.mem_cons_of_mem _ (List.mem_append_left _ (List.mem_append_left _ (List.mem_append_left _ (List.mem_of_getElem? (i := 9) rfl)))))) dX1_divide_66 ?_
      refine hz_asl (b := 4294967295) (by decide +kernel) ?_
      refine cw_land (P := 4294967296) hx hb 32 dX1_divide_69 (by decide) (by decide +kernel) (by decide +kernel) (fun x9_9 hx9_9a => ?_)
      have hw := hw x9_9 hx9_9a
      refine lv_iload_n hx hb dX1_divide_70 rfl (lv_at hl 4 rfl) ?_
      refine lv_iload_n hx hb dX1_divide_71 rfl (lv_at hl 3 rfl) ?_
      have hFc := cw_free hD hS hA
      obtain ⟨q9, hq9⟩ := cw_at (C := C) (z := z) (r := r) (A := A) hO_7.1 hO_7.2
      refine va_callv (va_runV (As := [.ref (r y1 0), .long (hz_l x9_9), .int (hz_i x3), .int (hz_i x2)]) (rest := []) ⟨hx, hb, hml, hown, hts⟩ (k_c1_takeMultiple l D _ C L K z r A y0 (r y1 0) x9_9 x3 x2 _ hw) (cwV 4 hts gX1_divide_X1_takeMultiple rfl rfl rfl (by decide +kernel) ⟨Nat.le_of_ble_eq_true rfl, Nat.le_of_ble_eq_true rfl⟩) ⟨hm_blind, va_recv hK hP (ci := 1) (q0 := q9) rfl hq9, hm_pre hP hK hD hE⟩ rfl rfl hl.1 rfl (lv_room (Nat.le_of_ble_eq_true rfl)) dX1_divide_72 ⟨Nat.le_of_ble_eq_true rfl, Nat.le_of_ble_eq_true rfl⟩) hS (fun q _ h => hFc q h) hFc (fun u t H1 locs ht hvm hw hB hz1 hk1 hS => ?_)
      obtain ⟨rv_10, _, _, A_11⟩ := u
      obtain ⟨hP, hK1, hD1⟩ := hB
      rw [ht] at hP
      have hD := hD1.weaken (fun k q _ h => hFc q.1 h)
      have hP : va_P D vwCl (cw_w C L K z r A_11) H1 := hP
      have hD : va_D Ad (cw_w C L K z r A_11) := hD
      generalize H1 = H at hP hS ⊢
      refine W.eq (g2 := F0 m 75 ls []) rfl ?_
      refine lv_aload_n hx hb dX1_divide_75 rfl (lv_at hl 2 rfl) ?_
      refine cw_get (ci := 0) (v := .ref (r y1 0)) hx hb hts hin0 hown hK hP hO_5.1 hO_5.2 rfl 0 (by decide) (hts (.fieldLink RX1 41 "HiddenMoves$Big" "digits" "[I") (List.mem_cons_of_mem _ (List.mem_append_left _ (List.mem_append_left _ (List.mem_append_left _ (List.mem_of_getElem? (i := 7) rfl)))))) (fun _ h9 => h9) rfl dX1_divide_76 ?_
      refine lv_iload_n hx hb dX1_divide_79 rfl (lv_at hl 4 rfl) ?_
      refine lv_iload hx hb dX1_divide_80 (lv_at hl 0 rfl) ?_
      obtain ⟨h9i, hw⟩ := hw
      refine cw_ist (v := x4_8) hx hb hK hP hD hS hO_6.1 hO_6.2.2 h9i hO_6.2.1 dX1_divide_82 (fun H locs hP hD hS => ?_)
      obtain ⟨A_12, hA_12⟩ : ∃ y : Nat → Nat → Int, y = hz_s A_11 (r y1 0) x3 x4_8 := ⟨_, rfl⟩
      rw [← hA_12] at hP hD
      have hw := hw A_12 hA_12
      obtain ⟨x3_13, hx3_13⟩ : ∃ y : Int, y = x3 + 1 := ⟨_, rfl⟩
      have hw := hw x3_13 hx3_13
      refine lv_iinc (v := hz_i x3_13) (lv' := [(3, .int (hz_i x3_13)), (4, .int (hz_i x4_8)), (0, .ref y0), (1, .ref y1), (2, .int (hz_i x2))]) hx hb dX1_divide_83 hl (k := 4) rfl (by rw [hx3_13]; exact hz_i_add _ _) (by decide) rfl (fun ls hl => ?_)
      refine lv_goto (tgt := 40) hx hb dX1_divide_86 (by decide) ?_
      exact (hP40 A_12 x3_13).mp hw H locs ls hP hD hS (lv_sub hl [2, 3, 4, 0] rfl)
  have hP := hP0; have hD := hD0; have hS := hS0; have hl := hl0; have hw := hw0
  obtain ⟨H, hH⟩ : ∃ H : Heap, H = s.heap := ⟨_, rfl⟩
  obtain ⟨locs, hlocs⟩ : ∃ L : List Loc, L = [] := ⟨_, rfl⟩
  rw [← hH] at hP
  have hS : va_S Ad s.heap H locs := by rw [hH, hlocs]; exact hS
  refine mw_HL hH hlocs ?_
  refine lv_aload_n hx hb dX1_divide_0 rfl (lv_at hl 1 rfl) ?_
  refine lv_aload_n hx hb dX1_divide_1 rfl (lv_at hl 0 rfl) ?_
  obtain ⟨hO_14, hw⟩ := hw
  refine cw_get (ci := 1) (v := .int (hz_i (z y0 1))) hx hb hts hin1 hown hK hP hO_14.1 hO_14.2 rfl 1 (by decide) (hts (.fieldLink RX1 20 "HiddenMoves$Divider" "twos" "I") (List.mem_cons_of_mem _ (List.mem_append_left _ (List.mem_append_left _ (List.mem_append_left _ (List.mem_of_getElem? (i := 0) rfl)))))) (fun _ h9 => h9) rfl dX1_divide_2 ?_
  obtain ⟨hO_18, hw⟩ := hw
  have hFc := cw_free hD hS hA
  obtain ⟨q9, hq9⟩ := cw_at (C := C) (z := z) (r := r) (A := A) hO_18.1 hO_18.2
  refine va_callv (va_runV (As := [.int (hz_i (z y0 1))]) (rest := []) ⟨hx, hb, hml, hown, hts⟩ (k_c0_shiftDown l D _ C L K z r A y1 (z y0 1) _ hw) (cwV 1 hts gX1_divide_X0_shiftDown rfl rfl rfl (by decide +kernel) ⟨Nat.le_of_ble_eq_true rfl, Nat.le_of_ble_eq_true rfl⟩) ⟨hm_blind, va_recv hK hP (ci := 0) (q0 := q9) rfl hq9, hm_pre hP hK hD hE⟩ rfl rfl hl.1 rfl (lv_room (Nat.le_of_ble_eq_true rfl)) dX1_divide_5 ⟨Nat.le_of_ble_eq_true rfl, Nat.le_of_ble_eq_true rfl⟩) hS (fun q _ h => hFc q h) hFc (fun u t H1 locs ht hvm hw hB hz1 hk1 hS => ?_)
  obtain ⟨rv_15, z_16, _, A_17⟩ := u
  obtain ⟨hP, hK1, hD1⟩ := hB
  rw [ht] at hP
  have hD := hD1.weaken (fun k q _ h => hFc q.1 h)
  have hP : va_P D vwCl (cw_w C L K z_16 r A_17) H1 := hP
  have hD : va_D Ad (cw_w C L K z_16 r A_17) := hD
  generalize H1 = H at hP hS ⊢
  refine W.eq (g2 := F0 m 8 ls []) rfl ?_
  refine lv_aload_n hx hb dX1_divide_8 rfl (lv_at hl 0 rfl) ?_
  refine cw_get (ci := 1) (v := .ref (r y0 0)) hx hb hts hin1 hown hK hP hO_14.1 hO_14.2 rfl 0 (by decide) (hts (.fieldLink RX1 14 "HiddenMoves$Divider" "odd" "LHiddenMoves$Big;") (List.mem_cons_of_mem _ (List.mem_append_left _ (List.mem_append_left _ (List.mem_append_left _ (List.mem_of_getElem? (i := 1) rfl)))))) (fun _ h9 => h9) rfl dX1_divide_9 ?_
  obtain ⟨hO_20, hw⟩ := hw
  have hFc := cw_free hD hS hA
  obtain ⟨q9, hq9⟩ := cw_at (C := C) (z := z_16) (r := r) (A := A_17) hO_20.1 hO_20.2
  refine va_calli (va_runV (As := []) (rest := []) ⟨hx, hb, hml, hown, hts⟩ (k_c0_isOne l D _ C L K z_16 r A_17 (r y0 0) _ hw) (cwV 0 hts gX1_divide_X0_isOne rfl rfl rfl (by decide +kernel) ⟨Nat.le_of_ble_eq_true rfl, Nat.le_of_ble_eq_true rfl⟩) ⟨hm_blind, va_recv hK hP (ci := 0) (q0 := q9) rfl hq9, hm_pre hP hK hD hE⟩ rfl rfl hl.1 rfl (lv_room (Nat.le_of_ble_eq_true rfl)) dX1_divide_12 ⟨Nat.le_of_ble_eq_true rfl, Nat.le_of_ble_eq_true rfl⟩) hS (fun q _ h => hFc q h) hFc (fun rv u t H1 locs ht hvm hw hB hz1 hk1 hS => ?_)
  obtain ⟨rv_19, _, _, _⟩ := u
  obtain ⟨hP, hK1, hD1⟩ := hB
  rw [ht] at hP
  obtain ⟨hrv, hw⟩ := hw
  subst hrv
  have hD := hD1.weaken (fun k q _ h => hFc q.1 h)
  have hP : va_P D vwCl (cw_w C L K z_16 r A_17) H1 := hP
  have hD : va_D Ad (cw_w C L K z_16 r A_17) := hD
  generalize H1 = H at hP hS ⊢
  refine W.eq (g2 := F0 m 15 ls [.int (hz_i rv_19)]) rfl ?_
  obtain ⟨h9a, hw⟩ := hw
  refine hz_if_eq (tgt := 19) hx hb dX1_divide_15 (by decide) h9a (fun c_21 => ?_) (fun c_21 => ?_)
  · have hw := hw.1 c_21
    refine lv_aload_n hx hb dX1_divide_19 rfl (lv_at hl 1 rfl) ?_
    refine cw_get (ci := 0) (v := .int (hz_i (z_16 y1 1))) hx hb hts hin0 hown hK hP hO_18.1 hO_18.2 rfl 1 (by decide) (hts (.fieldLink RX1 38 "HiddenMoves$Big" "length" "I") (List.mem_cons_of_mem _ (List.mem_append_left _ (List.mem_append_left _ (List.mem_append_left _ (List.mem_of_getElem? (i := 2) rfl)))))) (fun _ h9 => h9) rfl dX1_divide_20 ?_
    refine lv_aload_n hx hb dX1_divide_23 rfl (lv_at hl 0 rfl) ?_
    refine cw_get (ci := 1) (v := .ref (r y0 0)) hx hb hts hin1 hown hK hP hO_14.1 hO_14.2 rfl 0 (by decide) (hts (.fieldLink RX1 14 "HiddenMoves$Divider" "odd" "LHiddenMoves$Big;") (List.mem_cons_of_mem _ (List.mem_append_left _ (List.mem_append_left _ (List.mem_append_left _ (List.mem_of_getElem? (i := 1) rfl)))))) (fun _ h9 => h9) rfl dX1_divide_24 ?_
    refine cw_get (ci := 0) (v := .int (hz_i (z_16 (r y0 0) 1))) hx hb hts hin0 hown hK hP hO_20.1 hO_20.2 rfl 1 (by decide) (hts (.fieldLink RX1 38 "HiddenMoves$Big" "length" "I") (List.mem_cons_of_mem _ (List.mem_append_left _ (List.mem_append_left _ (List.mem_append_left _ (List.mem_of_getElem? (i := 2) rfl)))))) (fun _ h9 => h9) rfl dX1_divide_27 ?_
    refine hz_isub hx hb dX1_divide_30 ?_
    refine lv_iconst (v := hz_i 1) hx hb dX1_divide_31 (by decide +kernel) ?_
    refine hz_iadd hx hb dX1_divide_32 ?_
    refine lv_iconst (v := hz_i 0) hx hb dX1_divide_33 (by decide +kernel) ?_
    obtain ⟨h9a, hw⟩ := hw
    refine cw_mmax (x := ((z_16 y1 1) - (z_16 (r y0 0) 1)) + 1) (y := 0) hx hb (by rw [hml]; exact hl.1.symm) hown (hts (.methodLink RX1 49 Lib.Math.max.name) (List.mem_cons_of_mem _ (List.mem_append_left _ (List.mem_append_left _ (List.mem_append_left _ (List.mem_of_getElem? (i := 3) rfl)))))) (hts (.static Lib.Math.max.name) (List.mem_cons_of_mem _ (List.mem_append_left _ (List.mem_append_left _ (List.mem_append_left _ (List.mem_of_getElem? (i := 4) rfl)))))) (hts (.initialized "java/lang/Math") (List.mem_cons_of_mem _ (List.mem_append_left _ (List.mem_append_left _ (List.mem_append_left _ (List.mem_of_getElem? (i := 5) rfl)))))) (hts (.code Lib.Math.max.name Lib.Math.max.code 2 (some .int)) (List.mem_cons_of_mem _ (List.mem_append_left _ (List.mem_append_left _ (List.mem_append_left _ (List.mem_of_getElem? (i := 6) rfl)))))) (Nat.le_of_ble_eq_true rfl) (Nat.le_of_ble_eq_true rfl) (Nat.zero_le _) (Nat.zero_le _) dX1_divide_34 h9a ⟨by decide, by decide⟩ (fun x9_22 hx9_22 => ?_)
    have hw := hw x9_22 hx9_22
    refine lv_istore_n (lv' := [(2, .int (hz_i x9_22)), (0, .ref y0), (1, .ref y1)]) hx hb dX1_divide_37 rfl hl (by decide) rfl (fun ls hl => ?_)
    refine lv_iconst (v := hz_i 0) hx hb dX1_divide_38 (by decide +kernel) ?_
    refine lv_istore_n (lv' := [(3, .int (hz_i 0)), (2, .int (hz_i x9_22)), (0, .ref y0), (1, .ref y1)]) hx hb dX1_divide_39 rfl hl (by decide) rfl (fun ls hl => ?_)
    exact L40 z_16 A_17 x9_22 0 hw H locs ls hP hD hS (lv_sub hl [2, 3, 1, 0] rfl)
  · have hw := hw.2 c_21
    subst hQQ
    subst hAe
    exact W.vret hx hb hr (fun t ht hW => ⟨⟨(0, z_16, r, A_17), rfl, hw, by rw [ht]; exact hP, va_K.moved hW.alike hK, hD⟩, hS.F ht⟩) hS.2.2 dX1_divide_18

noncomputable def wp_c4_put_86 (L : List Nat) (K : Nat → cw_K) (z : Nat → Nat → Int) (r : Nat → Nat → Nat) (A : Nat → Nat → Int) (y0 : Nat) (Q : (Nat → Nat → Int) → (Nat → Nat → Int) → Prop) : Prop := cw_O L K 4 y0 ∧ ∀ z_2 : Nat → Nat → Int, z_2 = cw_s z y0 2 1 → Q z_2 A
noncomputable def wp_c4_put (L : List Nat) (K : Nat → cw_K) (z : Nat → Nat → Int) (r : Nat → Nat → Nat) (A : Nat → Nat → Int) (y0 : Nat) (y1 : Nat) (y2 : Nat) (y3 : Int) (Q : (Nat → Nat → Int) → (Nat → Nat → Int) → Prop) : Prop := cw_O L K 4 y0 ∧ cw_O L K 0 (r y0 0) ∧ wp_c0_copy L K z r A (r y0 0) y1 (fun z_5 A_6 => cw_O L K 0 (r y0 1) ∧ wp_c0_copy L K z_5 r A_6 (r y0 1) y2 (fun z_9 A_10 => wp_c0_scale L K z_9 r A_10 (r y0 1) y3 (fun z_13 A_14 => hz_rI (z_13 (r y0 0) 1) ∧ ((¬ z_13 (r y0 0) 1 = 0 → wp_c4_shareTwos L K z_13 r A_14 y0 (fun z_17 A_18 => wp_c4_findOddDivisor L K z_17 r A_18 y0 (fun z_20 A_21 => cw_O L K 1 (r y0 5) ∧ wp_c1_prepare L K z_20 r A_21 (r y0 5) (r y0 3) (fun z_23 A_24 => wp_c1_divide L K z_23 r A_24 (r y0 5) (r y0 0) (fun z_27 A_28 => wp_c1_divide L K z_27 r A_28 (r y0 5) (r y0 1) (fun z_30 A_31 => wp_c4_put_86 L K z_30 r A_31 y0  Q)))))) ∧ (z_13 (r y0 0) 1 = 0 → wp_c0_put L K z_13 r A_14 (r y0 1) 1 (fun z_33 A_34 => wp_c4_put_86 L K z_33 r A_34 y0  Q))))))
set_option maxHeartbeats 4000000 in
set_option maxRecDepth 100000 in
theorem k_c4_put (l : Launch) (D : va_G) (sz : Nat) (C : Nat → ClassId) (L : List Nat) (K : Nat → cw_K) (z : Nat → Nat → Int) (r : Nat → Nat → Nat) (A : Nat → Nat → Int) (y0 : Nat) (y1 : Nat) (y2 : Nat) (y3 : Int) (Q : (Nat → Nat → Int) → (Nat → Nat → Int) → Prop) (hw : wp_c4_put L K z r A y0 y1 y2 y3 Q) : Met l yX4_put wsX4_put ({ frames := 3, cells := 0, slots := 0, locals := 77 } : Room) (va_Pc [.ref y0, .ref y1, .ref y2, .long (hz_l y3)] (hm_P D (cw_w C L K z r A) (cw_t C) sz)) (va_Qv (S := Int × (Nat → Nat → Int) × (Nat → Nat → Nat) × (Nat → Nat → Int)) (fun u => Q u.2.1 u.2.2.2) (fun u t => hm_B D (va_A (cw_w C L K z r A) sz) (cw_w C L K u.2.1 r u.2.2.2) (cw_t C) t) (va_A (cw_w C L K z r A) sz)) 0 0 (va_A (cw_w C L K z r A) sz) := by
  refine Met.ofW (cc := cX4_put) (maxL := 5) (ret := none) (by decide) rfl ?_
  intro p e s m args below meth c s₁ B hml hv
  obtain ⟨rfl, hsz, hP, hK, hD0, hE⟩ := hv
  have hx := B.exec
  have hb := B.bytes
  have hr := B.returns
  have hts := atoms_spec (ws := wsX4_put) B.pre
  have hown : s.vm.findClass RX4 = some m.cls := findClass_of_methodNamed B.named
  have hlocks := B.notSynchronized
  have hin0 : ∀ w ∈ u_ws RX0 TX0 3, w ∈ wsX4_put := fun w h => List.mem_cons_of_mem _ (List.mem_append_left _ (List.mem_append_right _ (h)))
  have hin4 : ∀ w ∈ u_ws RX4 TX4 6, w ∈ wsX4_put := fun w h => List.mem_cons_of_mem _ (List.mem_append_left _ (List.mem_append_left _ (List.mem_append_right _ (h))))
  subst hsz
  have hD := hD0.self (sz := s.heap.size)
  generalize hAe : va_A (cw_w C L K z r A) s.heap.size = Ad at hD ⊢
  have hA : ∀ q : Nat, s.heap.size ≤ q → Ad q := fun q h => by rw [← hAe]; exact Or.inr h
  have hS : va_S Ad s.heap s.heap [] := va_S.rf
  have hl := lv_entry ([.ref y0, .ref y1, .ref y2, .long (hz_l y3)]) (n := 5) (Nat.le_of_ble_eq_true rfl)
  rw [lg_entry_eq]
  generalize (lg_sl ([.ref y0, .ref y1, .ref y2, .long (hz_l y3)]) ++ List.replicate (5 - (lg_sl ([.ref y0, .ref y1, .ref y2, .long (hz_l y3)])).length) Slot.unset).toArray = ls at hl ⊢
  have hl : lv_has ls 5 [(0, .ref y0), (1, .ref y1), (2, .ref y2), (3, .long (hz_l y3))] := hl
  refine mw_Q (fun QQ hQQ => ?_)
  have hP0 := hP; have hD0 := hD; have hS0 := hS; have hl0 := hl; have hw0 := hw
  clear hP hD hS hl hw
  have L86 : ∀ (z : Nat → Nat → Int) (A : Nat → Nat → Int), wp_c4_put_86 L K z r A y0  Q → ∀ (H : Heap) (locs : List Loc) (ls : Array Slot), va_P D vwCl (cw_w C L K z r A) H → va_D Ad (cw_w C L K z r A) → va_S Ad s.heap H locs → lv_has ls 5 [(0, .ref y0)] → W p l e (headSpec wsX4_put ({ frames := 3, cells := 0, slots := 0, locals := 77 } : Room)).room s m (List.toArray [.ref y0, .ref y1, .ref y2, .long (hz_l y3)]) below meth c H locs 0 0 QQ (F0 m 86 ls []) := by
    intro z A hw H locs ls hP hD hS hl
    refine lv_aload_n hx hb dX4_put_86 rfl (lv_at hl 0 rfl) ?_
    refine lv_iconst (v := hz_i 1) hx hb dX4_put_87 (by decide +kernel) ?_
    obtain ⟨hO_1, hw⟩ := hw
    refine cw_putz (ci := 4) (ty := .boolean) (v := .int (hz_i 1)) (x := 1) hx hb hts hin4 tyX4 tyX4_ok nmX4 hown hK hP hD hS hO_1.1 hO_1.2 rfl 2 (by decide) (hts (.fieldLink RX4 23 "HiddenMoves$Ratio" "known" "Z") (List.mem_cons_of_mem _ (List.mem_append_left _ (List.mem_append_left _ (List.mem_append_left _ (List.mem_append_left _ (List.mem_of_getElem? (i := 5) rfl))))))) (fun _ h9 => h9) rfl (by decide +kernel) (hz_tZ (by decide)) (hz_fZ (by decide)) (Nat.le_of_ble_eq_true rfl) (cw_z4_2 _ _ _) dX4_put_88 (fun H locs hP hD hS => ?_)
    obtain ⟨z_2, hz_2⟩ : ∃ y : Nat → Nat → Int, y = cw_s z y0 2 1 := ⟨_, rfl⟩
    rw [← hz_2] at hP hD
    have hw := hw z_2 hz_2
    subst hQQ
    subst hAe
    exact W.vret hx hb hr (fun t ht hW => ⟨⟨(0, z_2, r, A), rfl, hw, by rw [ht]; exact hP, va_K.moved hW.alike hK, hD⟩, hS.F ht⟩) hS.2.2 dX4_put_91
  have hP := hP0; have hD := hD0; have hS := hS0; have hl := hl0; have hw := hw0
  obtain ⟨H, hH⟩ : ∃ H : Heap, H = s.heap := ⟨_, rfl⟩
  obtain ⟨locs, hlocs⟩ : ∃ L : List Loc, L = [] := ⟨_, rfl⟩
  rw [← hH] at hP
  have hS : va_S Ad s.heap H locs := by rw [hH, hlocs]; exact hS
  refine mw_HL hH hlocs ?_
  refine lv_aload_n hx hb dX4_put_0 rfl (lv_at hl 0 rfl) ?_
  obtain ⟨hO_3, hw⟩ := hw
  refine cw_get (ci := 4) (v := .ref (r y0 0)) hx hb hts hin4 hown hK hP hO_3.1 hO_3.2 rfl 0 (by decide) (hts (.fieldLink RX4 14 "HiddenMoves$Ratio" "top" "LHiddenMoves$Big;") (List.mem_cons_of_mem _ (List.mem_append_left _ (List.mem_append_left _ (List.mem_append_left _ (List.mem_append_left _ (List.mem_of_getElem? (i := 0) rfl))))))) (fun _ h9 => h9) rfl dX4_put_1 ?_
  refine lv_aload_n hx hb dX4_put_4 rfl (lv_at hl 1 rfl) ?_
  obtain ⟨hO_7, hw⟩ := hw
  have hFc := cw_free hD hS hA
  obtain ⟨q9, hq9⟩ := cw_at (C := C) (z := z) (r := r) (A := A) hO_7.1 hO_7.2
  refine va_callv (va_runV (As := [.ref y1]) (rest := []) ⟨hx, hb, hml, hown, hts⟩ (k_c0_copy l D _ C L K z r A (r y0 0) y1 _ hw) (cwV 1 hts gX4_put_X0_copy rfl rfl rfl (by decide +kernel) ⟨Nat.le_of_ble_eq_true rfl, Nat.le_of_ble_eq_true rfl⟩) ⟨hm_blind, va_recv hK hP (ci := 0) (q0 := q9) rfl hq9, hm_pre hP hK hD hE⟩ rfl rfl hl.1 rfl (lv_room (Nat.le_of_ble_eq_true rfl)) dX4_put_5 ⟨Nat.le_of_ble_eq_true rfl, Nat.le_of_ble_eq_true rfl⟩) hS (fun q _ h => hFc q h) hFc (fun u t H1 locs ht hvm hw hB hz1 hk1 hS => ?_)
  obtain ⟨rv_4, z_5, _, A_6⟩ := u
  obtain ⟨hP, hK1, hD1⟩ := hB
  rw [ht] at hP
  have hD := hD1.weaken (fun k q _ h => hFc q.1 h)
  have hP : va_P D vwCl (cw_w C L K z_5 r A_6) H1 := hP
  have hD : va_D Ad (cw_w C L K z_5 r A_6) := hD
  generalize H1 = H at hP hS ⊢
  refine W.eq (g2 := F0 m 8 ls []) rfl ?_
  refine lv_aload_n hx hb dX4_put_8 rfl (lv_at hl 0 rfl) ?_
  refine cw_get (ci := 4) (v := .ref (r y0 1)) hx hb hts hin4 hown hK hP hO_3.1 hO_3.2 rfl 1 (by decide) (hts (.fieldLink RX4 20 "HiddenMoves$Ratio" "bottom" "LHiddenMoves$Big;") (List.mem_cons_of_mem _ (List.mem_append_left _ (List.mem_append_left _ (List.mem_append_left _ (List.mem_append_left _ (List.mem_of_getElem? (i := 1) rfl))))))) (fun _ h9 => h9) rfl dX4_put_9 ?_
  refine lv_aload_n hx hb dX4_put_12 rfl (lv_at hl 2 rfl) ?_
  obtain ⟨hO_11, hw⟩ := hw
  have hFc := cw_free hD hS hA
  obtain ⟨q9, hq9⟩ := cw_at (C := C) (z := z_5) (r := r) (A := A_6) hO_11.1 hO_11.2
  refine va_callv (va_runV (As := [.ref y2]) (rest := []) ⟨hx, hb, hml, hown, hts⟩ (k_c0_copy l D _ C L K z_5 r A_6 (r y0 1) y2 _ hw) (cwV 1 hts gX4_put_X0_copy rfl rfl rfl (by decide +kernel) ⟨Nat.le_of_ble_eq_true rfl, Nat.le_of_ble_eq_true rfl⟩) ⟨hm_blind, va_recv hK hP (ci := 0) (q0 := q9) rfl hq9, hm_pre hP hK hD hE⟩ rfl rfl hl.1 rfl (lv_room (Nat.le_of_ble_eq_true rfl)) dX4_put_13 ⟨Nat.le_of_ble_eq_true rfl, Nat.le_of_ble_eq_true rfl⟩) hS (fun q _ h => hFc q h) hFc (fun u t H1 locs ht hvm hw hB hz1 hk1 hS => ?_)
  obtain ⟨rv_8, z_9, _, A_10⟩ := u
  obtain ⟨hP, hK1, hD1⟩ := hB
  rw [ht] at hP
  have hD := hD1.weaken (fun k q _ h => hFc q.1 h)
  have hP : va_P D vwCl (cw_w C L K z_9 r A_10) H1 := hP
  have hD : va_D Ad (cw_w C L K z_9 r A_10) := hD
  generalize H1 = H at hP hS ⊢
  refine W.eq (g2 := F0 m 16 ls []) rfl ?_
  refine lv_aload_n hx hb dX4_put_16 rfl (lv_at hl 0 rfl) ?_
  refine cw_get (ci := 4) (v := .ref (r y0 1)) hx hb hts hin4 hown hK hP hO_3.1 hO_3.2 rfl 1 (by decide) (hts (.fieldLink RX4 20 "HiddenMoves$Ratio" "bottom" "LHiddenMoves$Big;") (List.mem_cons_of_mem _ (List.mem_append_left _ (List.mem_append_left _ (List.mem_append_left _ (List.mem_append_left _ (List.mem_of_getElem? (i := 1) rfl))))))) (fun _ h9 => h9) rfl dX4_put_17 ?_
  refine lv_lload_n hx hb dX4_put_20 rfl (lv_at hl 3 rfl) ?_
  have hFc := cw_free hD hS hA
  obtain ⟨q9, hq9⟩ := cw_at (C := C) (z := z_9) (r := r) (A := A_10) hO_11.1 hO_11.2
  refine va_callv (va_runV (As := [.long (hz_l y3)]) (rest := []) ⟨hx, hb, hml, hown, hts⟩ (k_c0_scale l D _ C L K z_9 r A_10 (r y0 1) y3 _ hw) (cwV 1 hts gX4_put_X0_scale rfl rfl rfl (by decide +kernel) ⟨Nat.le_of_ble_eq_true rfl, Nat.le_of_ble_eq_true rfl⟩) ⟨hm_blind, va_recv hK hP (ci := 0) (q0 := q9) rfl hq9, hm_pre hP hK hD hE⟩ rfl rfl hl.1 rfl (lv_room (Nat.le_of_ble_eq_true rfl)) dX4_put_21 ⟨Nat.le_of_ble_eq_true rfl, Nat.le_of_ble_eq_true rfl⟩) hS (fun q _ h => hFc q h) hFc (fun u t H1 locs ht hvm hw hB hz1 hk1 hS => ?_)
  obtain ⟨rv_12, z_13, _, A_14⟩ := u
  obtain ⟨hP, hK1, hD1⟩ := hB
  rw [ht] at hP
  have hD := hD1.weaken (fun k q _ h => hFc q.1 h)
  have hP : va_P D vwCl (cw_w C L K z_13 r A_14) H1 := hP
  have hD : va_D Ad (cw_w C L K z_13 r A_14) := hD
  generalize H1 = H at hP hS ⊢
  refine W.eq (g2 := F0 m 24 ls []) rfl ?_
  refine lv_aload_n hx hb dX4_put_24 rfl (lv_at hl 0 rfl) ?_
  refine cw_get (ci := 4) (v := .ref (r y0 0)) hx hb hts hin4 hown hK hP hO_3.1 hO_3.2 rfl 0 (by decide) (hts (.fieldLink RX4 14 "HiddenMoves$Ratio" "top" "LHiddenMoves$Big;") (List.mem_cons_of_mem _ (List.mem_append_left _ (List.mem_append_left _ (List.mem_append_left _ (List.mem_append_left _ (List.mem_of_getElem? (i := 0) rfl))))))) (fun _ h9 => h9) rfl dX4_put_25 ?_
  refine cw_get (ci := 0) (v := .int (hz_i (z_13 (r y0 0) 1))) hx hb hts hin0 hown hK hP hO_7.1 hO_7.2 rfl 1 (by decide) (hts (.fieldLink RX4 48 "HiddenMoves$Big" "length" "I") (List.mem_cons_of_mem _ (List.mem_append_left _ (List.mem_append_left _ (List.mem_append_left _ (List.mem_append_left _ (List.mem_of_getElem? (i := 2) rfl))))))) (fun _ h9 => h9) rfl dX4_put_28 ?_
  obtain ⟨h9a, hw⟩ := hw
  refine hz_if_ne (tgt := 45) hx hb dX4_put_31 (by decide) h9a (fun c_15 => ?_) (fun c_15 => ?_)
  · have hw := hw.1 c_15
    refine lv_aload_n hx hb dX4_put_45 rfl (lv_at hl 0 rfl) ?_
    have hFc := cw_free hD hS hA
    obtain ⟨q9, hq9⟩ := cw_at (C := C) (z := z_13) (r := r) (A := A_14) hO_3.1 hO_3.2
    refine va_callv (va_runV (As := []) (rest := []) ⟨hx, hb, hml, hown, hts⟩ (k_c4_shareTwos l D _ C L K z_13 r A_14 y0 _ hw) (cwV 0 hts gX4_put_X4_shareTwos rfl rfl rfl (by decide +kernel) ⟨Nat.le_of_ble_eq_true rfl, Nat.le_of_ble_eq_true rfl⟩) ⟨hm_blind, va_recv hK hP (ci := 4) (q0 := q9) rfl hq9, hm_pre hP hK hD hE⟩ rfl rfl hl.1 rfl (lv_room (Nat.le_of_ble_eq_true rfl)) dX4_put_46 ⟨Nat.le_of_ble_eq_true rfl, Nat.le_of_ble_eq_true rfl⟩) hS (fun q _ h => hFc q h) hFc (fun u t H1 locs ht hvm hw hB hz1 hk1 hS => ?_)
    obtain ⟨rv_16, z_17, _, A_18⟩ := u
    obtain ⟨hP, hK1, hD1⟩ := hB
    rw [ht] at hP
    have hD := hD1.weaken (fun k q _ h => hFc q.1 h)
    have hP : va_P D vwCl (cw_w C L K z_17 r A_18) H1 := hP
    have hD : va_D Ad (cw_w C L K z_17 r A_18) := hD
    generalize H1 = H at hP hS ⊢
    refine W.eq (g2 := F0 m 49 ls []) rfl ?_
    refine lv_aload_n hx hb dX4_put_49 rfl (lv_at hl 0 rfl) ?_
    have hFc := cw_free hD hS hA
    obtain ⟨q9, hq9⟩ := cw_at (C := C) (z := z_17) (r := r) (A := A_18) hO_3.1 hO_3.2
    refine va_callv (va_runV (As := []) (rest := []) ⟨hx, hb, hml, hown, hts⟩ (k_c4_findOddDivisor l D _ C L K z_17 r A_18 y0 _ hw) (cwV 0 hts gX4_put_X4_findOddDivisor rfl rfl rfl (by decide +kernel) ⟨Nat.le_of_ble_eq_true rfl, Nat.le_of_ble_eq_true rfl⟩) ⟨hm_blind, va_recv hK hP (ci := 4) (q0 := q9) rfl hq9, hm_pre hP hK hD hE⟩ rfl rfl hl.1 rfl (lv_room (Nat.le_of_ble_eq_true rfl)) dX4_put_50 ⟨Nat.le_of_ble_eq_true rfl, Nat.le_of_ble_eq_true rfl⟩) hS (fun q _ h => hFc q h) hFc (fun u t H1 locs ht hvm hw hB hz1 hk1 hS => ?_)
    obtain ⟨rv_19, z_20, _, A_21⟩ := u
    obtain ⟨hP, hK1, hD1⟩ := hB
    rw [ht] at hP
    have hD := hD1.weaken (fun k q _ h => hFc q.1 h)
    have hP : va_P D vwCl (cw_w C L K z_20 r A_21) H1 := hP
    have hD : va_D Ad (cw_w C L K z_20 r A_21) := hD
    generalize H1 = H at hP hS ⊢
    refine W.eq (g2 := F0 m 53 ls []) rfl ?_
    refine lv_aload_n hx hb dX4_put_53 rfl (lv_at hl 0 rfl) ?_
    refine cw_get (ci := 4) (v := .ref (r y0 5)) hx hb hts hin4 hown hK hP hO_3.1 hO_3.2 rfl 5 (by decide) (hts (.fieldLink RX4 36 "HiddenMoves$Ratio" "divider" "LHiddenMoves$Divider;") (List.mem_cons_of_mem _ (List.mem_append_left _ (List.mem_append_left _ (List.mem_append_left _ (List.mem_append_left _ (List.mem_of_getElem? (i := 3) rfl))))))) (fun _ h9 => h9) rfl dX4_put_54 ?_
    refine lv_aload_n hx hb dX4_put_57 rfl (lv_at hl 0 rfl) ?_
    refine cw_get (ci := 4) (v := .ref (r y0 3)) hx hb hts hin4 hown hK hP hO_3.1 hO_3.2 rfl 3 (by decide) (hts (.fieldLink RX4 27 "HiddenMoves$Ratio" "first" "LHiddenMoves$Big;") (List.mem_cons_of_mem _ (List.mem_append_left _ (List.mem_append_left _ (List.mem_append_left _ (List.mem_append_left _ (List.mem_of_getElem? (i := 4) rfl))))))) (fun _ h9 => h9) rfl dX4_put_58 ?_
    obtain ⟨hO_25, hw⟩ := hw
    have hFc := cw_free hD hS hA
    obtain ⟨q9, hq9⟩ := cw_at (C := C) (z := z_20) (r := r) (A := A_21) hO_25.1 hO_25.2
    refine va_callv (va_runV (As := [.ref (r y0 3)]) (rest := []) ⟨hx, hb, hml, hown, hts⟩ (k_c1_prepare l D _ C L K z_20 r A_21 (r y0 5) (r y0 3) _ hw) (cwV 1 hts gX4_put_X1_prepare rfl rfl rfl (by decide +kernel) ⟨Nat.le_of_ble_eq_true rfl, Nat.le_of_ble_eq_true rfl⟩) ⟨hm_blind, va_recv hK hP (ci := 1) (q0 := q9) rfl hq9, hm_pre hP hK hD hE⟩ rfl rfl hl.1 rfl (lv_room (Nat.le_of_ble_eq_true rfl)) dX4_put_61 ⟨Nat.le_of_ble_eq_true rfl, Nat.le_of_ble_eq_true rfl⟩) hS (fun q _ h => hFc q h) hFc (fun u t H1 locs ht hvm hw hB hz1 hk1 hS => ?_)
    obtain ⟨rv_22, z_23, _, A_24⟩ := u
    obtain ⟨hP, hK1, hD1⟩ := hB
    rw [ht] at hP
    have hD := hD1.weaken (fun k q _ h => hFc q.1 h)
    have hP : va_P D vwCl (cw_w C L K z_23 r A_24) H1 := hP
    have hD : va_D Ad (cw_w C L K z_23 r A_24) := hD
    generalize H1 = H at hP hS ⊢
    refine W.eq (g2 := F0 m 64 ls []) rfl ?_
    refine lv_aload_n hx hb dX4_put_64 rfl (lv_at hl 0 rfl) ?_
    refine cw_get (ci := 4) (v := .ref (r y0 5)) hx hb hts hin4 hown hK hP hO_3.1 hO_3.2 rfl 5 (by decide) (hts (.fieldLink RX4 36 "HiddenMoves$Ratio" "divider" "LHiddenMoves$Divider;") (List.mem_cons_of_mem _ (List.mem_append_left _ (List.mem_append_left _ (List.mem_append_left _ (List.mem_append_left _ (List.mem_of_getElem? (i := 3) rfl))))))) (fun _ h9 => h9) rfl dX4_put_65 ?_
    refine lv_aload_n hx hb dX4_put_68 rfl (lv_at hl 0 rfl) ?_
    refine cw_get (ci := 4) (v := .ref (r y0 0)) hx hb hts hin4 hown hK hP hO_3.1 hO_3.2 rfl 0 (by decide) (hts (.fieldLink RX4 14 "HiddenMoves$Ratio" "top" "LHiddenMoves$Big;") (List.mem_cons_of_mem _ (List.mem_append_left _ (List.mem_append_left _ (List.mem_append_left _ (List.mem_append_left _ (List.mem_of_getElem? (i := 0) rfl))))))) (fun _ h9 => h9) rfl dX4_put_69 ?_
    have hFc := cw_free hD hS hA
    obtain ⟨q9, hq9⟩ := cw_at (C := C) (z := z_23) (r := r) (A := A_24) hO_25.1 hO_25.2
    refine va_callv (va_runV (As := [.ref (r y0 0)]) (rest := []) ⟨hx, hb, hml, hown, hts⟩ (k_c1_divide l D _ C L K z_23 r A_24 (r y0 5) (r y0 0) _ hw) (cwV 1 hts gX4_put_X1_divide rfl rfl rfl (by decide +kernel) ⟨Nat.le_of_ble_eq_true rfl, Nat.le_of_ble_eq_true rfl⟩) ⟨hm_blind, va_recv hK hP (ci := 1) (q0 := q9) rfl hq9, hm_pre hP hK hD hE⟩ rfl rfl hl.1 rfl (lv_room (Nat.le_of_ble_eq_true rfl)) dX4_put_72 ⟨Nat.le_of_ble_eq_true rfl, Nat.le_of_ble_eq_true rfl⟩) hS (fun q _ h => hFc q h) hFc (fun u t H1 locs ht hvm hw hB hz1 hk1 hS => ?_)
    obtain ⟨rv_26, z_27, _, A_28⟩ := u
    obtain ⟨hP, hK1, hD1⟩ := hB
    rw [ht] at hP
    have hD := hD1.weaken (fun k q _ h => hFc q.1 h)
    have hP : va_P D vwCl (cw_w C L K z_27 r A_28) H1 := hP
    have hD : va_D Ad (cw_w C L K z_27 r A_28) := hD
    generalize H1 = H at hP hS ⊢
    refine W.eq (g2 := F0 m 75 ls []) rfl ?_
    refine lv_aload_n hx hb dX4_put_75 rfl (lv_at hl 0 rfl) ?_
    refine cw_get (ci := 4) (v := .ref (r y0 5)) hx hb hts hin4 hown hK hP hO_3.1 hO_3.2 rfl 5 (by decide) (hts (.fieldLink RX4 36 "HiddenMoves$Ratio" "divider" "LHiddenMoves$Divider;") (List.mem_cons_of_mem _ (List.mem_append_left _ (List.mem_append_left _ (List.mem_append_left _ (List.mem_append_left _ (List.mem_of_getElem? (i := 3) rfl))))))) (fun _ h9 => h9) rfl dX4_put_76 ?_
    refine lv_aload_n hx hb dX4_put_79 rfl (lv_at hl 0 rfl) ?_
    refine cw_get (ci := 4) (v := .ref (r y0 1)) hx hb hts hin4 hown hK hP hO_3.1 hO_3.2 rfl 1 (by decide) (hts (.fieldLink RX4 20 "HiddenMoves$Ratio" "bottom" "LHiddenMoves$Big;") (List.mem_cons_of_mem _ (List.mem_append_left _ (List.mem_append_left _ (List.mem_append_left _ (List.mem_append_left _ (List.mem_of_getElem? (i := 1) rfl))))))) (fun _ h9 => h9) rfl dX4_put_80 ?_
    have hFc := cw_free hD hS hA
    obtain ⟨q9, hq9⟩ := cw_at (C := C) (z := z_27) (r := r) (A := A_28) hO_25.1 hO_25.2
    refine va_callv (va_runV (As := [.ref (r y0 1)]) (rest := []) ⟨hx, hb, hml, hown, hts⟩ (k_c1_divide l D _ C L K z_27 r A_28 (r y0 5) (r y0 1) _ hw) (cwV 1 hts gX4_put_X1_divide rfl rfl rfl (by decide +kernel) ⟨Nat.le_of_ble_eq_true rfl, Nat.le_of_ble_eq_true rfl⟩) ⟨hm_blind, va_recv hK hP (ci := 1) (q0 := q9) rfl hq9, hm_pre hP hK hD hE⟩ rfl rfl hl.1 rfl (lv_room (Nat.le_of_ble_eq_true rfl)) dX4_put_83 ⟨Nat.le_of_ble_eq_true rfl, Nat.le_of_ble_eq_true rfl⟩) hS (fun q _ h => hFc q h) hFc (fun u t H1 locs ht hvm hw hB hz1 hk1 hS => ?_)
    obtain ⟨rv_29, z_30, _, A_31⟩ := u
    obtain ⟨hP, hK1, hD1⟩ := hB
    rw [ht] at hP
    have hD := hD1.weaken (fun k q _ h => hFc q.1 h)
    have hP : va_P D vwCl (cw_w C L K z_30 r A_31) H1 := hP
    have hD : va_D Ad (cw_w C L K z_30 r A_31) := hD
    generalize H1 = H at hP hS ⊢
    refine W.eq (g2 := F0 m 86 ls []) rfl ?_
    exact L86 z_30 A_31 hw H locs ls hP hD hS (lv_sub hl [0] rfl)
  · have hw := hw.2 c_15
    refine lv_aload_n hx hb dX4_put_34 rfl (lv_at hl 0 rfl) ?_
    refine cw_get (ci := 4) (v := .ref (r y0 1)) hx hb hts hin4 hown hK hP hO_3.1 hO_3.2 rfl 1 (by decide) (hts (.fieldLink RX4 20 "HiddenMoves$Ratio" "bottom" "LHiddenMoves$Big;") (List.mem_cons_of_mem _ (List.mem_append_left _ (List.mem_append_left _ (List.mem_append_left _ (List.mem_append_left _ (List.mem_of_getElem? (i := 1) rfl))))))) (fun _ h9 => h9) rfl dX4_put_35 ?_
    refine lv_lconst (v := hz_l 1) hx hb dX4_put_38 (by decide +kernel) ?_
    have hFc := cw_free hD hS hA
    obtain ⟨q9, hq9⟩ := cw_at (C := C) (z := z_13) (r := r) (A := A_14) hO_11.1 hO_11.2
    refine va_callv (va_runV (As := [.long (hz_l 1)]) (rest := []) ⟨hx, hb, hml, hown, hts⟩ (k_c0_put l D _ C L K z_13 r A_14 (r y0 1) 1 _ hw) (cwV 1 hts gX4_put_X0_put rfl rfl rfl (by decide +kernel) ⟨Nat.le_of_ble_eq_true rfl, Nat.le_of_ble_eq_true rfl⟩) ⟨hm_blind, va_recv hK hP (ci := 0) (q0 := q9) rfl hq9, hm_pre hP hK hD hE⟩ rfl rfl hl.1 rfl (lv_room (Nat.le_of_ble_eq_true rfl)) dX4_put_39 ⟨Nat.le_of_ble_eq_true rfl, Nat.le_of_ble_eq_true rfl⟩) hS (fun q _ h => hFc q h) hFc (fun u t H1 locs ht hvm hw hB hz1 hk1 hS => ?_)
    obtain ⟨rv_32, z_33, _, A_34⟩ := u
    obtain ⟨hP, hK1, hD1⟩ := hB
    rw [ht] at hP
    have hD := hD1.weaken (fun k q _ h => hFc q.1 h)
    have hP : va_P D vwCl (cw_w C L K z_33 r A_34) H1 := hP
    have hD : va_D Ad (cw_w C L K z_33 r A_34) := hD
    generalize H1 = H at hP hS ⊢
    refine W.eq (g2 := F0 m 42 ls []) rfl ?_
    refine lv_goto (tgt := 86) hx hb dX4_put_42 (by decide) ?_
    exact L86 z_33 A_34 hw H locs ls hP hD hS (lv_sub hl [0] rfl)

noncomputable def wp_c4_order (L : List Nat) (K : Nat → cw_K) (z : Nat → Nat → Int) (r : Nat → Nat → Nat) (A : Nat → Nat → Int) (y0 : Nat) (y1 : Nat) (Q : Int → (Nat → Nat → Int) → (Nat → Nat → Int) → Prop) : Prop := cw_O L K 4 y0 ∧ cw_O L K 4 y1 ∧ cw_O L K 0 (r y0 3) ∧ wp_c0_putProduct L K z r A (r y0 3) (r y0 0) (r y1 1) (fun z_4 A_5 => cw_O L K 0 (r y0 4) ∧ wp_c0_putProduct L K z_4 r A_5 (r y0 4) (r y1 0) (r y0 1) (fun z_8 A_9 => wp_c0_order L K z_8 r A_9 (r y0 3) (r y0 4) (fun rv_11 => Q rv_11 z_8 A_9)))
set_option maxHeartbeats 4000000 in
set_option maxRecDepth 100000 in
theorem k_c4_order (l : Launch) (D : va_G) (sz : Nat) (C : Nat → ClassId) (L : List Nat) (K : Nat → cw_K) (z : Nat → Nat → Int) (r : Nat → Nat → Nat) (A : Nat → Nat → Int) (y0 : Nat) (y1 : Nat) (Q : Int → (Nat → Nat → Int) → (Nat → Nat → Int) → Prop) (hw : wp_c4_order L K z r A y0 y1 Q) : Met l yX4_order wsX4_order ({ frames := 3, cells := 0, slots := 0, locals := 73 } : Room) (va_Pc [.ref y0, .ref y1] (hm_P D (cw_w C L K z r A) (cw_t C) sz)) (va_Qi (S := Int × (Nat → Nat → Int) × (Nat → Nat → Nat) × (Nat → Nat → Int)) (fun r u => r = hz_i u.1 ∧ Q u.1 u.2.1 u.2.2.2) (fun u t => hm_B D (va_A (cw_w C L K z r A) sz) (cw_w C L K u.2.1 r u.2.2.2) (cw_t C) t) (va_A (cw_w C L K z r A) sz)) 0 0 (va_A (cw_w C L K z r A) sz) := by
  refine Met.ofW (cc := cX4_order) (maxL := 2) (ret := (some .int)) (by decide) rfl ?_
  intro p e s m args below meth c s₁ B hml hv
  obtain ⟨rfl, hsz, hP, hK, hD0, hE⟩ := hv
  have hx := B.exec
  have hb := B.bytes
  have hr := B.returns
  have hts := atoms_spec (ws := wsX4_order) B.pre
  have hown : s.vm.findClass RX4 = some m.cls := findClass_of_methodNamed B.named
  have hlocks := B.notSynchronized
  have hin4 : ∀ w ∈ u_ws RX4 TX4 6, w ∈ wsX4_order := fun w h => List.mem_cons_of_mem _ (List.mem_append_left _ (List.mem_append_right _ (h)))
  subst hsz
  have hD := hD0.self (sz := s.heap.size)
  generalize hAe : va_A (cw_w C L K z r A) s.heap.size = Ad at hD ⊢
  have hA : ∀ q : Nat, s.heap.size ≤ q → Ad q := fun q h => by rw [← hAe]; exact Or.inr h
  have hS : va_S Ad s.heap s.heap [] := va_S.rf
  have hl := lv_entry ([.ref y0, .ref y1]) (n := 2) (Nat.le_of_ble_eq_true rfl)
  rw [lg_entry_eq]
  generalize (lg_sl ([.ref y0, .ref y1]) ++ List.replicate (2 - (lg_sl ([.ref y0, .ref y1])).length) Slot.unset).toArray = ls at hl ⊢
  have hl : lv_has ls 2 [(0, .ref y0), (1, .ref y1)] := hl
  refine mw_Q (fun QQ hQQ => ?_)
  have hP0 := hP; have hD0 := hD; have hS0 := hS; have hl0 := hl; have hw0 := hw
  clear hP hD hS hl hw
  have hP := hP0; have hD := hD0; have hS := hS0; have hl := hl0; have hw := hw0
  obtain ⟨H, hH⟩ : ∃ H : Heap, H = s.heap := ⟨_, rfl⟩
  obtain ⟨locs, hlocs⟩ : ∃ L : List Loc, L = [] := ⟨_, rfl⟩
  rw [← hH] at hP
  have hS : va_S Ad s.heap H locs := by rw [hH, hlocs]; exact hS
  refine mw_HL hH hlocs ?_
  refine lv_aload_n hx hb dX4_order_0 rfl (lv_at hl 0 rfl) ?_
  obtain ⟨hO_1, hw⟩ := hw
  refine cw_get (ci := 4) (v := .ref (r y0 3)) hx hb hts hin4 hown hK hP hO_1.1 hO_1.2 rfl 3 (by decide) (hts (.fieldLink RX4 27 "HiddenMoves$Ratio" "first" "LHiddenMoves$Big;") (List.mem_cons_of_mem _ (List.mem_append_left _ (List.mem_append_left _ (List.mem_append_left _ (List.mem_of_getElem? (i := 0) rfl)))))) (fun _ h9 => h9) rfl dX4_order_1 ?_
  refine lv_aload_n hx hb dX4_order_4 rfl (lv_at hl 0 rfl) ?_
  refine cw_get (ci := 4) (v := .ref (r y0 0)) hx hb hts hin4 hown hK hP hO_1.1 hO_1.2 rfl 0 (by decide) (hts (.fieldLink RX4 14 "HiddenMoves$Ratio" "top" "LHiddenMoves$Big;") (List.mem_cons_of_mem _ (List.mem_append_left _ (List.mem_append_left _ (List.mem_append_left _ (List.mem_of_getElem? (i := 1) rfl)))))) (fun _ h9 => h9) rfl dX4_order_5 ?_
  refine lv_aload_n hx hb dX4_order_8 rfl (lv_at hl 1 rfl) ?_
  obtain ⟨hO_2, hw⟩ := hw
  refine cw_get (ci := 4) (v := .ref (r y1 1)) hx hb hts hin4 hown hK hP hO_2.1 hO_2.2 rfl 1 (by decide) (hts (.fieldLink RX4 20 "HiddenMoves$Ratio" "bottom" "LHiddenMoves$Big;") (List.mem_cons_of_mem _ (List.mem_append_left _ (List.mem_append_left _ (List.mem_append_left _ (List.mem_of_getElem? (i := 2) rfl)))))) (fun _ h9 => h9) rfl dX4_order_9 ?_
  obtain ⟨hO_6, hw⟩ := hw
  have hFc := cw_free hD hS hA
  obtain ⟨q9, hq9⟩ := cw_at (C := C) (z := z) (r := r) (A := A) hO_6.1 hO_6.2
  refine va_callv (va_runV (As := [.ref (r y0 0), .ref (r y1 1)]) (rest := []) ⟨hx, hb, hml, hown, hts⟩ (k_c0_putProduct l D _ C L K z r A (r y0 3) (r y0 0) (r y1 1) _ hw) (cwV 2 hts gX4_order_X0_putProduct rfl rfl rfl (by decide +kernel) ⟨Nat.le_of_ble_eq_true rfl, Nat.le_of_ble_eq_true rfl⟩) ⟨hm_blind, va_recv hK hP (ci := 0) (q0 := q9) rfl hq9, hm_pre hP hK hD hE⟩ rfl rfl hl.1 rfl (lv_room (Nat.le_of_ble_eq_true rfl)) dX4_order_12 ⟨Nat.le_of_ble_eq_true rfl, Nat.le_of_ble_eq_true rfl⟩) hS (fun q _ h => hFc q h) hFc (fun u t H1 locs ht hvm hw hB hz1 hk1 hS => ?_)
  obtain ⟨rv_3, z_4, _, A_5⟩ := u
  obtain ⟨hP, hK1, hD1⟩ := hB
  rw [ht] at hP
  have hD := hD1.weaken (fun k q _ h => hFc q.1 h)
  have hP : va_P D vwCl (cw_w C L K z_4 r A_5) H1 := hP
  have hD : va_D Ad (cw_w C L K z_4 r A_5) := hD
  generalize H1 = H at hP hS ⊢
  refine W.eq (g2 := F0 m 15 ls []) rfl ?_
  refine lv_aload_n hx hb dX4_order_15 rfl (lv_at hl 0 rfl) ?_
  refine cw_get (ci := 4) (v := .ref (r y0 4)) hx hb hts hin4 hown hK hP hO_1.1 hO_1.2 rfl 4 (by decide) (hts (.fieldLink RX4 30 "HiddenMoves$Ratio" "second" "LHiddenMoves$Big;") (List.mem_cons_of_mem _ (List.mem_append_left _ (List.mem_append_left _ (List.mem_append_left _ (List.mem_of_getElem? (i := 3) rfl)))))) (fun _ h9 => h9) rfl dX4_order_16 ?_
  refine lv_aload_n hx hb dX4_order_19 rfl (lv_at hl 1 rfl) ?_
  refine cw_get (ci := 4) (v := .ref (r y1 0)) hx hb hts hin4 hown hK hP hO_2.1 hO_2.2 rfl 0 (by decide) (hts (.fieldLink RX4 14 "HiddenMoves$Ratio" "top" "LHiddenMoves$Big;") (List.mem_cons_of_mem _ (List.mem_append_left _ (List.mem_append_left _ (List.mem_append_left _ (List.mem_of_getElem? (i := 1) rfl)))))) (fun _ h9 => h9) rfl dX4_order_20 ?_
  refine lv_aload_n hx hb dX4_order_23 rfl (lv_at hl 0 rfl) ?_
  refine cw_get (ci := 4) (v := .ref (r y0 1)) hx hb hts hin4 hown hK hP hO_1.1 hO_1.2 rfl 1 (by decide) (hts (.fieldLink RX4 20 "HiddenMoves$Ratio" "bottom" "LHiddenMoves$Big;") (List.mem_cons_of_mem _ (List.mem_append_left _ (List.mem_append_left _ (List.mem_append_left _ (List.mem_of_getElem? (i := 2) rfl)))))) (fun _ h9 => h9) rfl dX4_order_24 ?_
  obtain ⟨hO_10, hw⟩ := hw
  have hFc := cw_free hD hS hA
  obtain ⟨q9, hq9⟩ := cw_at (C := C) (z := z_4) (r := r) (A := A_5) hO_10.1 hO_10.2
  refine va_callv (va_runV (As := [.ref (r y1 0), .ref (r y0 1)]) (rest := []) ⟨hx, hb, hml, hown, hts⟩ (k_c0_putProduct l D _ C L K z_4 r A_5 (r y0 4) (r y1 0) (r y0 1) _ hw) (cwV 2 hts gX4_order_X0_putProduct rfl rfl rfl (by decide +kernel) ⟨Nat.le_of_ble_eq_true rfl, Nat.le_of_ble_eq_true rfl⟩) ⟨hm_blind, va_recv hK hP (ci := 0) (q0 := q9) rfl hq9, hm_pre hP hK hD hE⟩ rfl rfl hl.1 rfl (lv_room (Nat.le_of_ble_eq_true rfl)) dX4_order_27 ⟨Nat.le_of_ble_eq_true rfl, Nat.le_of_ble_eq_true rfl⟩) hS (fun q _ h => hFc q h) hFc (fun u t H1 locs ht hvm hw hB hz1 hk1 hS => ?_)
  obtain ⟨rv_7, z_8, _, A_9⟩ := u
  obtain ⟨hP, hK1, hD1⟩ := hB
  rw [ht] at hP
  have hD := hD1.weaken (fun k q _ h => hFc q.1 h)
  have hP : va_P D vwCl (cw_w C L K z_8 r A_9) H1 := hP
  have hD : va_D Ad (cw_w C L K z_8 r A_9) := hD
  generalize H1 = H at hP hS ⊢
  refine W.eq (g2 := F0 m 30 ls []) rfl ?_
  refine lv_aload_n hx hb dX4_order_30 rfl (lv_at hl 0 rfl) ?_
  refine cw_get (ci := 4) (v := .ref (r y0 3)) hx hb hts hin4 hown hK hP hO_1.1 hO_1.2 rfl 3 (by decide) (hts (.fieldLink RX4 27 "HiddenMoves$Ratio" "first" "LHiddenMoves$Big;") (List.mem_cons_of_mem _ (List.mem_append_left _ (List.mem_append_left _ (List.mem_append_left _ (List.mem_of_getElem? (i := 0) rfl)))))) (fun _ h9 => h9) rfl dX4_order_31 ?_
  refine lv_aload_n hx hb dX4_order_34 rfl (lv_at hl 0 rfl) ?_
  refine cw_get (ci := 4) (v := .ref (r y0 4)) hx hb hts hin4 hown hK hP hO_1.1 hO_1.2 rfl 4 (by decide) (hts (.fieldLink RX4 30 "HiddenMoves$Ratio" "second" "LHiddenMoves$Big;") (List.mem_cons_of_mem _ (List.mem_append_left _ (List.mem_append_left _ (List.mem_append_left _ (List.mem_of_getElem? (i := 3) rfl)))))) (fun _ h9 => h9) rfl dX4_order_35 ?_
  have hFc := cw_free hD hS hA
  obtain ⟨q9, hq9⟩ := cw_at (C := C) (z := z_8) (r := r) (A := A_9) hO_6.1 hO_6.2
  refine va_calli (va_runV (As := [.ref (r y0 4)]) (rest := []) ⟨hx, hb, hml, hown, hts⟩ (k_c0_order l D _ C L K z_8 r A_9 (r y0 3) (r y0 4) _ hw) (cwV 1 hts gX4_order_X0_order rfl rfl rfl (by decide +kernel) ⟨Nat.le_of_ble_eq_true rfl, Nat.le_of_ble_eq_true rfl⟩) ⟨hm_blind, va_recv hK hP (ci := 0) (q0 := q9) rfl hq9, hm_pre hP hK hD hE⟩ rfl rfl hl.1 rfl (lv_room (Nat.le_of_ble_eq_true rfl)) dX4_order_38 ⟨Nat.le_of_ble_eq_true rfl, Nat.le_of_ble_eq_true rfl⟩) hS (fun q _ h => hFc q h) hFc (fun rv u t H1 locs ht hvm hw hB hz1 hk1 hS => ?_)
  obtain ⟨rv_11, _, _, _⟩ := u
  obtain ⟨hP, hK1, hD1⟩ := hB
  rw [ht] at hP
  obtain ⟨hrv, hw⟩ := hw
  subst hrv
  have hD := hD1.weaken (fun k q _ h => hFc q.1 h)
  have hP : va_P D vwCl (cw_w C L K z_8 r A_9) H1 := hP
  have hD : va_D Ad (cw_w C L K z_8 r A_9) := hD
  generalize H1 = H at hP hS ⊢
  refine W.eq (g2 := F0 m 41 ls [.int (hz_i rv_11)]) rfl ?_
  subst hQQ
  subst hAe
  exact W.iret (v := hz_i rv_11) hx hb hr (fun t ht hW => ⟨⟨hz_i rv_11, (rv_11, z_8, r, A_9), rfl, ⟨rfl, hw⟩, by rw [ht]; exact hP, va_K.moved hW.alike hK, hD⟩, hS.F ht⟩) hS.2.2 dX4_order_41

noncomputable def wp_c11_getsValue_97 (L : List Nat) (K : Nat → cw_K) (z : Nat → Nat → Int) (r : Nat → Nat → Nat) (A : Nat → Nat → Int) (t0 : Int) (Q : Int → (Nat → Nat → Int) → (Nat → Nat → Int) → Prop) : Prop := (t0 = 0 ∨ t0 = 1) ∧ Q t0 z A
noncomputable def wp_c11_getsValue (L : List Nat) (K : Nat → cw_K) (z : Nat → Nat → Int) (r : Nat → Nat → Nat) (A : Nat → Nat → Int) (y0 : Nat) (y1 : Int) (Q : Int → (Nat → Nat → Int) → (Nat → Nat → Int) → Prop) : Prop := cw_O L K 11 y0 ∧ cw_G L K 8 (r y0 6) ∧ ((0 : Int) ≤ y1 ∧ y1 < (cw_n K (r y0 6) : Int)) ∧ cw_O L K 2 (r y0 13) ∧ cw_G L K 7 (r (r y0 13) 1) ∧ ((0 : Int) ≤ y1 ∧ y1 < (cw_n K (r (r y0 13) 1) : Int)) ∧ cw_O L K 3 (cw_g K (r y0 6) (y1.toNat)) ∧ wp_c3_isMix L K z r A (cw_g K (r y0 6) (y1.toNat)) (cw_g K (r (r y0 13) 1) (y1.toNat)) (fun rv_5 z_6 A_7 => hz_rI rv_5 ∧ ((¬ rv_5 = 0 → wp_c11_other L K z_6 r A_7 y1 (fun rv_10 => ((0 : Int) ≤ y1 ∧ y1 < (cw_n K (r y0 6) : Int)) ∧ cw_O L K 6 (r y0 8) ∧ wp_c6_work L K z_6 r A_7 (r y0 8) (r y0 13) rv_10 (cw_g K (r y0 6) (y1.toNat)) (fun z_12 A_13 => wp_c6_worth L K z_12 r A_13 (r y0 8) (fun rv_15 => ((0 : Int) ≤ y1 ∧ y1 < (cw_n K (r y0 6) : Int)) ∧ cw_G L K 4 (r (cw_g K (r y0 6) (y1.toNat)) 0) ∧ ((0 : Int) ≤ 0 ∧ 0 < (cw_n K (r (cw_g K (r y0 6) (y1.toNat)) 0) : Int)) ∧ cw_O L K 4 (r y0 10) ∧ wp_c4_put L K z_12 r A_13 (r y0 10) rv_15 (cw_g K (r (cw_g K (r y0 6) (y1.toNat)) 0) ((0 : Int).toNat)) (z_12 (r y0 13) 2) (fun z_18 A_19 => cw_G L K 5 (r y0 9) ∧ ((0 : Int) ≤ 0 ∧ 0 < (cw_n K (r y0 9) : Int)) ∧ wp_c4_order L K z_18 r A_19 (r y0 10) (cw_g K (r y0 9) ((0 : Int).toNat)) (fun rv_22 z_23 A_24 => hz_rI rv_22 ∧ ((¬ rv_22 = 0 → wp_c11_getsValue_97 L K z_23 r A_24 0  Q) ∧ (rv_22 = 0 → wp_c11_getsValue_97 L K z_23 r A_24 1  Q)))))))) ∧ (rv_5 = 0 → Q 0 z_6 A_7)))
set_option maxHeartbeats 4000000 in
set_option maxRecDepth 100000 in
theorem k_c11_getsValue (l : Launch) (D : va_G) (sz : Nat) (C : Nat → ClassId) (L : List Nat) (K : Nat → cw_K) (z : Nat → Nat → Int) (r : Nat → Nat → Nat) (A : Nat → Nat → Int) (y0 : Nat) (y1 : Int) (Q : Int → (Nat → Nat → Int) → (Nat → Nat → Int) → Prop) (hw : wp_c11_getsValue L K z r A y0 y1 Q) : Met l yX11_getsValue wsX11_getsValue ({ frames := 5, cells := 0, slots := 0, locals := 126 } : Room) (va_Pc [.ref y0, .int (hz_i y1)] (hm_P D (cw_w C L K z r A) (cw_t C) sz)) (va_Qi (S := Int × (Nat → Nat → Int) × (Nat → Nat → Nat) × (Nat → Nat → Int)) (fun r u => r = hz_i u.1 ∧ Q u.1 u.2.1 u.2.2.2) (fun u t => hm_B D (va_A (cw_w C L K z r A) sz) (cw_w C L K u.2.1 r u.2.2.2) (cw_t C) t) (va_A (cw_w C L K z r A) sz)) 0 0 (va_A (cw_w C L K z r A) sz) := by
  refine Met.ofW (cc := cX11_getsValue) (maxL := 2) (ret := (some .boolean)) (by decide) rfl ?_
  intro p e s m args below meth c s₁ B hml hv
  obtain ⟨rfl, hsz, hP, hK, hD0, hE⟩ := hv
  have hx := B.exec
  have hb := B.bytes
  have hr := B.returns
  have hts := atoms_spec (ws := wsX11_getsValue) B.pre
  have hown : s.vm.findClass RX11 = some m.cls := findClass_of_methodNamed B.named
  have hlocks := B.notSynchronized
  have hin2 : ∀ w ∈ u_ws RX2 TX2 4, w ∈ wsX11_getsValue := fun w h => List.mem_cons_of_mem _ (List.mem_append_left _ (List.mem_append_left _ (List.mem_append_left _ (List.mem_append_left _ (List.mem_append_left _ (List.mem_append_left _ (List.mem_append_right _ (h))))))))
  have hin3 : ∀ w ∈ u_ws RX3 TX3 2, w ∈ wsX11_getsValue := fun w h => List.mem_cons_of_mem _ (List.mem_append_left _ (List.mem_append_left _ (List.mem_append_left _ (List.mem_append_left _ (List.mem_append_left _ (List.mem_append_right _ (h)))))))
  have hin11 : ∀ w ∈ u_ws RX11 TX11 16, w ∈ wsX11_getsValue := fun w h => List.mem_cons_of_mem _ (List.mem_append_left _ (List.mem_append_left _ (List.mem_append_left _ (List.mem_append_left _ (List.mem_append_left _ (List.mem_append_left _ (List.mem_append_left _ (List.mem_append_right _ (h)))))))))
  subst hsz
  have hD := hD0.self (sz := s.heap.size)
  generalize hAe : va_A (cw_w C L K z r A) s.heap.size = Ad at hD ⊢
  have hA : ∀ q : Nat, s.heap.size ≤ q → Ad q := fun q h => by rw [← hAe]; exact Or.inr h
  have hS : va_S Ad s.heap s.heap [] := va_S.rf
  have hl := lv_entry ([.ref y0, .int (hz_i y1)]) (n := 2) (Nat.le_of_ble_eq_true rfl)
  rw [lg_entry_eq]
  generalize (lg_sl ([.ref y0, .int (hz_i y1)]) ++ List.replicate (2 - (lg_sl ([.ref y0, .int (hz_i y1)])).length) Slot.unset).toArray = ls at hl ⊢
  have hl : lv_has ls 2 [(0, .ref y0), (1, .int (hz_i y1))] := hl
  refine mw_Q (fun QQ hQQ => ?_)
  have hP0 := hP; have hD0 := hD; have hS0 := hS; have hl0 := hl; have hw0 := hw
  clear hP hD hS hl hw
  have L97 : ∀ (z : Nat → Nat → Int) (A : Nat → Nat → Int) (t0 : Int), wp_c11_getsValue_97 L K z r A t0  Q → ∀ (H : Heap) (locs : List Loc) (ls : Array Slot), va_P D vwCl (cw_w C L K z r A) H → va_D Ad (cw_w C L K z r A) → va_S Ad s.heap H locs → lv_has ls 2 [] → W p l e (headSpec wsX11_getsValue ({ frames := 5, cells := 0, slots := 0, locals := 126 } : Room)).room s m (List.toArray [.ref y0, .int (hz_i y1)]) below meth c H locs 0 0 QQ (F0 m 97 ls [.int (hz_i t0)]) := by
    intro z A t0 hw H locs ls hP hD hS hl
    obtain ⟨h9z, hw⟩ := hw
    subst hQQ
    subst hAe
    exact W.zret (v := hz_i t0) hx hb hr (hz_tZ h9z) (fun t ht hW => ⟨⟨hz_i t0, (t0, z, r, A), rfl, ⟨rfl, hw⟩, by rw [ht]; exact hP, va_K.moved hW.alike hK, hD⟩, hS.F ht⟩) hS.2.2 dX11_getsValue_97
  have hP := hP0; have hD := hD0; have hS := hS0; have hl := hl0; have hw := hw0
  obtain ⟨H, hH⟩ : ∃ H : Heap, H = s.heap := ⟨_, rfl⟩
  obtain ⟨locs, hlocs⟩ : ∃ L : List Loc, L = [] := ⟨_, rfl⟩
  rw [← hH] at hP
  have hS : va_S Ad s.heap H locs := by rw [hH, hlocs]; exact hS
  refine mw_HL hH hlocs ?_
  refine lv_aload_n hx hb dX11_getsValue_0 rfl (lv_at hl 0 rfl) ?_
  obtain ⟨hO_1, hw⟩ := hw
  refine cw_get (ci := 11) (v := .ref (r y0 6)) hx hb hts hin11 hown hK hP hO_1.1 hO_1.2 rfl 6 (by decide) (hts (.fieldLink RX11 43 "HiddenMoves" "found" "[LHiddenMoves$Mix;") (List.mem_cons_of_mem _ (List.mem_append_left _ (List.mem_append_left _ (List.mem_append_left _ (List.mem_append_left _ (List.mem_append_left _ (List.mem_append_left _ (List.mem_append_left _ (List.mem_append_left _ (List.mem_append_left _ (List.mem_of_getElem? (i := 0) rfl)))))))))))) (fun _ h9 => h9) rfl dX11_getsValue_1 ?_
  refine lv_iload_n hx hb dX11_getsValue_4 rfl (lv_at hl 1 rfl) ?_
  obtain ⟨hO_2, hw⟩ := hw
  obtain ⟨h9i, hw⟩ := hw
  refine cw_ald hx hb hK hP hO_2.1 hO_2.2.2 rfl h9i hO_2.2.1 dX11_getsValue_5 ?_
  refine lv_aload_n hx hb dX11_getsValue_6 rfl (lv_at hl 0 rfl) ?_
  refine cw_get (ci := 11) (v := .ref (r y0 13)) hx hb hts hin11 hown hK hP hO_1.1 hO_1.2 rfl 13 (by decide) (hts (.fieldLink RX11 83 "HiddenMoves" "game" "LHiddenMoves$Game;") (List.mem_cons_of_mem _ (List.mem_append_left _ (List.mem_append_left _ (List.mem_append_left _ (List.mem_append_left _ (List.mem_append_left _ (List.mem_append_left _ (List.mem_append_left _ (List.mem_append_left _ (List.mem_append_left _ (List.mem_of_getElem? (i := 1) rfl)))))))))))) (fun _ h9 => h9) rfl dX11_getsValue_7 ?_
  obtain ⟨hO_3, hw⟩ := hw
  refine cw_get (ci := 2) (v := .ref (r (r y0 13) 1)) hx hb hts hin2 hown hK hP hO_3.1 hO_3.2 rfl 1 (by decide) (hts (.fieldLink RX11 238 "HiddenMoves$Game" "sides" "[LHiddenMoves$Side;") (List.mem_cons_of_mem _ (List.mem_append_left _ (List.mem_append_left _ (List.mem_append_left _ (List.mem_append_left _ (List.mem_append_left _ (List.mem_append_left _ (List.mem_append_left _ (List.mem_append_left _ (List.mem_append_left _ (List.mem_of_getElem? (i := 2) rfl)))))))))))) (fun _ h9 => h9) rfl dX11_getsValue_10 ?_
  refine lv_iload_n hx hb dX11_getsValue_13 rfl (lv_at hl 1 rfl) ?_
  obtain ⟨hO_4, hw⟩ := hw
  obtain ⟨h9i, hw⟩ := hw
  refine cw_ald hx hb hK hP hO_4.1 hO_4.2.2 rfl h9i hO_4.2.1 dX11_getsValue_14 ?_
  obtain ⟨hO_8, hw⟩ := hw
  have hFc := cw_free hD hS hA
  obtain ⟨q9, hq9⟩ := cw_at (C := C) (z := z) (r := r) (A := A) hO_8.1 hO_8.2
  refine va_calli (va_runV (As := [.ref (cw_g K (r (r y0 13) 1) (y1.toNat))]) (rest := []) ⟨hx, hb, hml, hown, hts⟩ (k_c3_isMix l D _ C L K z r A (cw_g K (r y0 6) (y1.toNat)) (cw_g K (r (r y0 13) 1) (y1.toNat)) _ hw) (cwV 1 hts gX11_getsValue_X3_isMix rfl rfl rfl (by decide +kernel) ⟨Nat.le_of_ble_eq_true rfl, Nat.le_of_ble_eq_true rfl⟩) ⟨hm_blind, va_recv hK hP (ci := 3) (q0 := q9) rfl hq9, hm_pre hP hK hD hE⟩ rfl rfl hl.1 rfl (lv_room (Nat.le_of_ble_eq_true rfl)) dX11_getsValue_15 ⟨Nat.le_of_ble_eq_true rfl, Nat.le_of_ble_eq_true rfl⟩) hS (fun q _ h => hFc q h) hFc (fun rv u t H1 locs ht hvm hw hB hz1 hk1 hS => ?_)
  obtain ⟨rv_5, z_6, _, A_7⟩ := u
  obtain ⟨hP, hK1, hD1⟩ := hB
  rw [ht] at hP
  obtain ⟨hrv, hw⟩ := hw
  subst hrv
  have hD := hD1.weaken (fun k q _ h => hFc q.1 h)
  have hP : va_P D vwCl (cw_w C L K z_6 r A_7) H1 := hP
  have hD : va_D Ad (cw_w C L K z_6 r A_7) := hD
  generalize H1 = H at hP hS ⊢
  refine W.eq (g2 := F0 m 18 ls [.int (hz_i rv_5)]) rfl ?_
  obtain ⟨h9a, hw⟩ := hw
  refine hz_if_ne (tgt := 23) hx hb dX11_getsValue_18 (by decide) h9a (fun c_9 => ?_) (fun c_9 => ?_)
  · have hw := hw.1 c_9
    refine lv_aload_n hx hb dX11_getsValue_23 rfl (lv_at hl 0 rfl) ?_
    refine cw_get (ci := 11) (v := .ref (r y0 8)) hx hb hts hin11 hown hK hP hO_1.1 hO_1.2 rfl 8 (by decide) (hts (.fieldLink RX11 53 "HiddenMoves" "trial" "LHiddenMoves$Reply;") (List.mem_cons_of_mem _ (List.mem_append_left _ (List.mem_append_left _ (List.mem_append_left _ (List.mem_append_left _ (List.mem_append_left _ (List.mem_append_left _ (List.mem_append_left _ (List.mem_append_left _ (List.mem_append_left _ (List.mem_of_getElem? (i := 3) rfl)))))))))))) (fun _ h9 => h9) rfl dX11_getsValue_24 ?_
    refine lv_aload_n hx hb dX11_getsValue_27 rfl (lv_at hl 0 rfl) ?_
    refine cw_get (ci := 11) (v := .ref (r y0 13)) hx hb hts hin11 hown hK hP hO_1.1 hO_1.2 rfl 13 (by decide) (hts (.fieldLink RX11 83 "HiddenMoves" "game" "LHiddenMoves$Game;") (List.mem_cons_of_mem _ (List.mem_append_left _ (List.mem_append_left _ (List.mem_append_left _ (List.mem_append_left _ (List.mem_append_left _ (List.mem_append_left _ (List.mem_append_left _ (List.mem_append_left _ (List.mem_append_left _ (List.mem_of_getElem? (i := 1) rfl)))))))))))) (fun _ h9 => h9) rfl dX11_getsValue_28 ?_
    refine lv_iload_n hx hb dX11_getsValue_31 rfl (lv_at hl 1 rfl) ?_
    have hFc := cw_free hD hS hA
    refine va_calli (va_runS (As := [.int (hz_i y1)]) (rest := [.ref (r y0 13), .ref (r y0 8)]) ⟨hx, hb, hml, hown, hts⟩ (k_c11_other l D _ C L K z_6 r A_7 y1 _ hw) (va_cwS 1 hts gX11_getsValue_X11_other rfl rfl rfl (by decide +kernel) ⟨Nat.le_of_ble_eq_true rfl, Nat.le_of_ble_eq_true rfl⟩) ⟨hm_blind, hm_pre hP hK hD hE⟩ rfl rfl hl.1 rfl (lv_room (Nat.le_of_ble_eq_true rfl)) dX11_getsValue_32 ⟨Nat.le_of_ble_eq_true rfl, Nat.le_of_ble_eq_true rfl⟩) hS (fun q _ h => hFc q h) hFc (fun rv u t H1 locs ht hvm hw hB hz1 hk1 hS => ?_)
    obtain ⟨rv_10, _, _, _⟩ := u
    obtain ⟨hP, hK1, hD1⟩ := hB
    rw [ht] at hP
    obtain ⟨hrv, hw⟩ := hw
    subst hrv
    have hD := hD1.weaken (fun k q _ h => hFc q.1 h)
    have hP : va_P D vwCl (cw_w C L K z_6 r A_7) H1 := hP
    have hD : va_D Ad (cw_w C L K z_6 r A_7) := hD
    generalize H1 = H at hP hS ⊢
    refine W.eq (g2 := F0 m 35 ls [.int (hz_i rv_10), .ref (r y0 13), .ref (r y0 8)]) rfl ?_
    refine lv_aload_n hx hb dX11_getsValue_35 rfl (lv_at hl 0 rfl) ?_
    refine cw_get (ci := 11) (v := .ref (r y0 6)) hx hb hts hin11 hown hK hP hO_1.1 hO_1.2 rfl 6 (by decide) (hts (.fieldLink RX11 43 "HiddenMoves" "found" "[LHiddenMoves$Mix;") (List.mem_cons_of_mem _ (List.mem_append_left _ (List.mem_append_left _ (List.mem_append_left _ (List.mem_append_left _ (List.mem_append_left _ (List.mem_append_left _ (List.mem_append_left _ (List.mem_append_left _ (List.mem_append_left _ (List.mem_of_getElem? (i := 0) rfl)))))))))))) (fun _ h9 => h9) rfl dX11_getsValue_36 ?_
    refine lv_iload_n hx hb dX11_getsValue_39 rfl (lv_at hl 1 rfl) ?_
    obtain ⟨h9i, hw⟩ := hw
    refine cw_ald hx hb hK hP hO_2.1 hO_2.2.2 rfl h9i hO_2.2.1 dX11_getsValue_40 ?_
    obtain ⟨hO_14, hw⟩ := hw
    have hFc := cw_free hD hS hA
    obtain ⟨q9, hq9⟩ := cw_at (C := C) (z := z_6) (r := r) (A := A_7) hO_14.1 hO_14.2
    refine va_callv (va_runV (As := [.ref (r y0 13), .int (hz_i rv_10), .ref (cw_g K (r y0 6) (y1.toNat))]) (rest := []) ⟨hx, hb, hml, hown, hts⟩ (k_c6_work l D _ C L K z_6 r A_7 (r y0 8) (r y0 13) rv_10 (cw_g K (r y0 6) (y1.toNat)) _ hw) (cwV 3 hts gX11_getsValue_X6_work rfl rfl rfl (by decide +kernel) ⟨Nat.le_of_ble_eq_true rfl, Nat.le_of_ble_eq_true rfl⟩) ⟨hm_blind, va_recv hK hP (ci := 6) (q0 := q9) rfl hq9, hm_pre hP hK hD hE⟩ rfl rfl hl.1 rfl (lv_room (Nat.le_of_ble_eq_true rfl)) dX11_getsValue_41 ⟨Nat.le_of_ble_eq_true rfl, Nat.le_of_ble_eq_true rfl⟩) hS (fun q _ h => hFc q h) hFc (fun u t H1 locs ht hvm hw hB hz1 hk1 hS => ?_)
    obtain ⟨rv_11, z_12, _, A_13⟩ := u
    obtain ⟨hP, hK1, hD1⟩ := hB
    rw [ht] at hP
    have hD := hD1.weaken (fun k q _ h => hFc q.1 h)
    have hP : va_P D vwCl (cw_w C L K z_12 r A_13) H1 := hP
    have hD : va_D Ad (cw_w C L K z_12 r A_13) := hD
    generalize H1 = H at hP hS ⊢
    refine W.eq (g2 := F0 m 44 ls []) rfl ?_
    refine lv_aload_n hx hb dX11_getsValue_44 rfl (lv_at hl 0 rfl) ?_
    refine cw_get (ci := 11) (v := .ref (r y0 10)) hx hb hts hin11 hown hK hP hO_1.1 hO_1.2 rfl 10 (by decide) (hts (.fieldLink RX11 64 "HiddenMoves" "probe" "LHiddenMoves$Ratio;") (List.mem_cons_of_mem _ (List.mem_append_left _ (List.mem_append_left _ (List.mem_append_left _ (List.mem_append_left _ (List.mem_append_left _ (List.mem_append_left _ (List.mem_append_left _ (List.mem_append_left _ (List.mem_append_left _ (List.mem_of_getElem? (i := 4) rfl)))))))))))) (fun _ h9 => h9) rfl dX11_getsValue_45 ?_
    refine lv_aload_n hx hb dX11_getsValue_48 rfl (lv_at hl 0 rfl) ?_
    refine cw_get (ci := 11) (v := .ref (r y0 8)) hx hb hts hin11 hown hK hP hO_1.1 hO_1.2 rfl 8 (by decide) (hts (.fieldLink RX11 53 "HiddenMoves" "trial" "LHiddenMoves$Reply;") (List.mem_cons_of_mem _ (List.mem_append_left _ (List.mem_append_left _ (List.mem_append_left _ (List.mem_append_left _ (List.mem_append_left _ (List.mem_append_left _ (List.mem_append_left _ (List.mem_append_left _ (List.mem_append_left _ (List.mem_of_getElem? (i := 3) rfl)))))))))))) (fun _ h9 => h9) rfl dX11_getsValue_49 ?_
    have hFc := cw_free hD hS hA
    obtain ⟨q9, hq9⟩ := cw_at (C := C) (z := z_12) (r := r) (A := A_13) hO_14.1 hO_14.2
    refine va_callr (va_runV (As := []) (rest := [.ref (r y0 10)]) ⟨hx, hb, hml, hown, hts⟩ (k_c6_worth l D _ C L K z_12 r A_13 (r y0 8) _ hw) (cwV 0 hts gX11_getsValue_X6_worth rfl rfl rfl (by decide +kernel) ⟨Nat.le_of_ble_eq_true rfl, Nat.le_of_ble_eq_true rfl⟩) ⟨hm_blind, va_recv hK hP (ci := 6) (q0 := q9) rfl hq9, hm_pre hP hK hD hE⟩ rfl rfl hl.1 rfl (lv_room (Nat.le_of_ble_eq_true rfl)) dX11_getsValue_52 ⟨Nat.le_of_ble_eq_true rfl, Nat.le_of_ble_eq_true rfl⟩) hS (fun q _ h => hFc q h) hFc (fun u ra t H1 locs ht hvm hw hB hz1 hk1 hS => ?_)
    obtain ⟨rv_15, _, _, _⟩ := u
    obtain ⟨hra, hP, hK1, hD1⟩ := hB
    have hra := hra.symm
    subst hra
    rw [ht] at hP
    have hD := hD1.weaken (fun k q _ h => hFc q.1 h)
    have hP : va_P D vwCl (cw_w C L K z_12 r A_13) H1 := hP
    have hD : va_D Ad (cw_w C L K z_12 r A_13) := hD
    generalize H1 = H at hP hS ⊢
    refine W.eq (g2 := F0 m 55 ls [.ref rv_15, .ref (r y0 10)]) rfl ?_
    refine lv_aload_n hx hb dX11_getsValue_55 rfl (lv_at hl 0 rfl) ?_
    refine cw_get (ci := 11) (v := .ref (r y0 6)) hx hb hts hin11 hown hK hP hO_1.1 hO_1.2 rfl 6 (by decide) (hts (.fieldLink RX11 43 "HiddenMoves" "found" "[LHiddenMoves$Mix;") (List.mem_cons_of_mem _ (List.mem_append_left _ (List.mem_append_left _ (List.mem_append_left _ (List.mem_append_left _ (List.mem_append_left _ (List.mem_append_left _ (List.mem_append_left _ (List.mem_append_left _ (List.mem_append_left _ (List.mem_of_getElem? (i := 0) rfl)))))))))))) (fun _ h9 => h9) rfl dX11_getsValue_56 ?_
    refine lv_iload_n hx hb dX11_getsValue_59 rfl (lv_at hl 1 rfl) ?_
    obtain ⟨h9i, hw⟩ := hw
    refine cw_ald hx hb hK hP hO_2.1 hO_2.2.2 rfl h9i hO_2.2.1 dX11_getsValue_60 ?_
    refine cw_get (ci := 3) (v := .ref (r (cw_g K (r y0 6) (y1.toNat)) 0)) hx hb hts hin3 hown hK hP hO_8.1 hO_8.2 rfl 0 (by decide) (hts (.fieldLink RX11 193 "HiddenMoves$Mix" "parts" "[LHiddenMoves$Big;") (List.mem_cons_of_mem _ (List.mem_append_left _ (List.mem_append_left _ (List.mem_append_left _ (List.mem_append_left _ (List.mem_append_left _ (List.mem_append_left _ (List.mem_append_left _ (List.mem_append_left _ (List.mem_append_left _ (List.mem_of_getElem? (i := 5) rfl)))))))))))) (fun _ h9 => h9) rfl dX11_getsValue_61 ?_
    refine lv_iconst (v := hz_i 0) hx hb dX11_getsValue_64 (by decide +kernel) ?_
    obtain ⟨hO_16, hw⟩ := hw
    obtain ⟨h9i, hw⟩ := hw
    refine cw_ald hx hb hK hP hO_16.1 hO_16.2.2 rfl h9i hO_16.2.1 dX11_getsValue_65 ?_
    refine lv_aload_n hx hb dX11_getsValue_66 rfl (lv_at hl 0 rfl) ?_
    refine cw_get (ci := 11) (v := .ref (r y0 13)) hx hb hts hin11 hown hK hP hO_1.1 hO_1.2 rfl 13 (by decide) (hts (.fieldLink RX11 83 "HiddenMoves" "game" "LHiddenMoves$Game;") (List.mem_cons_of_mem _ (List.mem_append_left _ (List.mem_append_left _ (List.mem_append_left _ (List.mem_append_left _ (List.mem_append_left _ (List.mem_append_left _ (List.mem_append_left _ (List.mem_append_left _ (List.mem_append_left _ (List.mem_of_getElem? (i := 1) rfl)))))))))))) (fun _ h9 => h9) rfl dX11_getsValue_67 ?_
    refine cw_get (ci := 2) (v := .long (hz_l (z_12 (r y0 13) 2))) hx hb hts hin2 hown hK hP hO_3.1 hO_3.2 rfl 2 (by decide) (hts (.fieldLink RX11 197 "HiddenMoves$Game" "common" "J") (List.mem_cons_of_mem _ (List.mem_append_left _ (List.mem_append_left _ (List.mem_append_left _ (List.mem_append_left _ (List.mem_append_left _ (List.mem_append_left _ (List.mem_append_left _ (List.mem_append_left _ (List.mem_append_left _ (List.mem_of_getElem? (i := 6) rfl)))))))))))) (fun _ h9 => h9) rfl dX11_getsValue_70 ?_
    obtain ⟨hO_20, hw⟩ := hw
    have hFc := cw_free hD hS hA
    obtain ⟨q9, hq9⟩ := cw_at (C := C) (z := z_12) (r := r) (A := A_13) hO_20.1 hO_20.2
    refine va_callv (va_runV (As := [.ref rv_15, .ref (cw_g K (r (cw_g K (r y0 6) (y1.toNat)) 0) ((0 : Int).toNat)), .long (hz_l (z_12 (r y0 13) 2))]) (rest := []) ⟨hx, hb, hml, hown, hts⟩ (k_c4_put l D _ C L K z_12 r A_13 (r y0 10) rv_15 (cw_g K (r (cw_g K (r y0 6) (y1.toNat)) 0) ((0 : Int).toNat)) (z_12 (r y0 13) 2) _ hw) (cwV 3 hts gX11_getsValue_X4_put rfl rfl rfl (by decide +kernel) ⟨Nat.le_of_ble_eq_true rfl, Nat.le_of_ble_eq_true rfl⟩) ⟨hm_blind, va_recv hK hP (ci := 4) (q0 := q9) rfl hq9, hm_pre hP hK hD hE⟩ rfl rfl hl.1 rfl (lv_room (Nat.le_of_ble_eq_true rfl)) dX11_getsValue_73 ⟨Nat.le_of_ble_eq_true rfl, Nat.le_of_ble_eq_true rfl⟩) hS (fun q _ h => hFc q h) hFc (fun u t H1 locs ht hvm hw hB hz1 hk1 hS => ?_)
    obtain ⟨rv_17, z_18, _, A_19⟩ := u
    obtain ⟨hP, hK1, hD1⟩ := hB
    rw [ht] at hP
    have hD := hD1.weaken (fun k q _ h => hFc q.1 h)
    have hP : va_P D vwCl (cw_w C L K z_18 r A_19) H1 := hP
    have hD : va_D Ad (cw_w C L K z_18 r A_19) := hD
    generalize H1 = H at hP hS ⊢
    refine W.eq (g2 := F0 m 76 ls []) rfl ?_
    refine lv_aload_n hx hb dX11_getsValue_76 rfl (lv_at hl 0 rfl) ?_
    refine cw_get (ci := 11) (v := .ref (r y0 10)) hx hb hts hin11 hown hK hP hO_1.1 hO_1.2 rfl 10 (by decide) (hts (.fieldLink RX11 64 "HiddenMoves" "probe" "LHiddenMoves$Ratio;") (List.mem_cons_of_mem _ (List.mem_append_left _ (List.mem_append_left _ (List.mem_append_left _ (List.mem_append_left _ (List.mem_append_left _ (List.mem_append_left _ (List.mem_append_left _ (List.mem_append_left _ (List.mem_append_left _ (List.mem_of_getElem? (i := 4) rfl)))))))))))) (fun _ h9 => h9) rfl dX11_getsValue_77 ?_
    refine lv_aload_n hx hb dX11_getsValue_80 rfl (lv_at hl 0 rfl) ?_
    refine cw_get (ci := 11) (v := .ref (r y0 9)) hx hb hts hin11 hown hK hP hO_1.1 hO_1.2 rfl 9 (by decide) (hts (.fieldLink RX11 59 "HiddenMoves" "results" "[LHiddenMoves$Ratio;") (List.mem_cons_of_mem _ (List.mem_append_left _ (List.mem_append_left _ (List.mem_append_left _ (List.mem_append_left _ (List.mem_append_left _ (List.mem_append_left _ (List.mem_append_left _ (List.mem_append_left _ (List.mem_append_left _ (List.mem_of_getElem? (i := 7) rfl)))))))))))) (fun _ h9 => h9) rfl dX11_getsValue_81 ?_
    refine lv_iconst (v := hz_i 0) hx hb dX11_getsValue_84 (by decide +kernel) ?_
    obtain ⟨hO_21, hw⟩ := hw
    obtain ⟨h9i, hw⟩ := hw
    refine cw_ald hx hb hK hP hO_21.1 hO_21.2.2 rfl h9i hO_21.2.1 dX11_getsValue_85 ?_
    have hFc := cw_free hD hS hA
    obtain ⟨q9, hq9⟩ := cw_at (C := C) (z := z_18) (r := r) (A := A_19) hO_20.1 hO_20.2
    refine va_calli (va_runV (As := [.ref (cw_g K (r y0 9) ((0 : Int).toNat))]) (rest := []) ⟨hx, hb, hml, hown, hts⟩ (k_c4_order l D _ C L K z_18 r A_19 (r y0 10) (cw_g K (r y0 9) ((0 : Int).toNat)) _ hw) (cwV 1 hts gX11_getsValue_X4_order rfl rfl rfl (by decide +kernel) ⟨Nat.le_of_ble_eq_true rfl, Nat.le_of_ble_eq_true rfl⟩) ⟨hm_blind, va_recv hK hP (ci := 4) (q0 := q9) rfl hq9, hm_pre hP hK hD hE⟩ rfl rfl hl.1 rfl (lv_room (Nat.le_of_ble_eq_true rfl)) dX11_getsValue_86 ⟨Nat.le_of_ble_eq_true rfl, Nat.le_of_ble_eq_true rfl⟩) hS (fun q _ h => hFc q h) hFc (fun rv u t H1 locs ht hvm hw hB hz1 hk1 hS => ?_)
    obtain ⟨rv_22, z_23, _, A_24⟩ := u
    obtain ⟨hP, hK1, hD1⟩ := hB
    rw [ht] at hP
    obtain ⟨hrv, hw⟩ := hw
    subst hrv
    have hD := hD1.weaken (fun k q _ h => hFc q.1 h)
    have hP : va_P D vwCl (cw_w C L K z_23 r A_24) H1 := hP
    have hD : va_D Ad (cw_w C L K z_23 r A_24) := hD
    generalize H1 = H at hP hS ⊢
    refine W.eq (g2 := F0 m 89 ls [.int (hz_i rv_22)]) rfl ?_
    obtain ⟨h9a, hw⟩ := hw
    refine hz_if_ne (tgt := 96) hx hb dX11_getsValue_89 (by decide) h9a (fun c_25 => ?_) (fun c_25 => ?_)
    · have hw := hw.1 c_25
      refine lv_iconst (v := hz_i 0) hx hb dX11_getsValue_96 (by decide +kernel) ?_
      exact L97 z_23 A_24 0 hw H locs ls hP hD hS (lv_sub hl [] rfl)
    · have hw := hw.2 c_25
      refine lv_iconst (v := hz_i 1) hx hb dX11_getsValue_92 (by decide +kernel) ?_
      refine lv_goto (tgt := 97) hx hb dX11_getsValue_93 (by decide) ?_
      exact L97 z_23 A_24 1 hw H locs ls hP hD hS (lv_sub hl [] rfl)
  · have hw := hw.2 c_9
    refine lv_iconst (v := hz_i 0) hx hb dX11_getsValue_21 (by decide +kernel) ?_
    subst hQQ
    subst hAe
    exact W.zret (v := hz_i 0) hx hb hr (hz_tZ (by decide)) (fun t ht hW => ⟨⟨hz_i 0, (0, z_6, r, A_7), rfl, ⟨rfl, hw⟩, by rw [ht]; exact hP, va_K.moved hW.alike hK, hD⟩, hS.F ht⟩) hS.2.2 dX11_getsValue_22

noncomputable def wp_c11_check_35 (L : List Nat) (K : Nat → cw_K) (z : Nat → Nat → Int) (r : Nat → Nat → Nat) (A : Nat → Nat → Int) (t0 : Int) (Q : Int → (Nat → Nat → Int) → (Nat → Nat → Int) → Prop) : Prop := Q t0 z A
noncomputable def wp_c11_check_34 (L : List Nat) (K : Nat → cw_K) (z : Nat → Nat → Int) (r : Nat → Nat → Nat) (A : Nat → Nat → Int) (Q : Int → (Nat → Nat → Int) → (Nat → Nat → Int) → Prop) : Prop := wp_c11_check_35 L K z r A 0  Q
noncomputable def wp_c11_check (L : List Nat) (K : Nat → cw_K) (z : Nat → Nat → Int) (r : Nat → Nat → Nat) (A : Nat → Nat → Int) (y0 : Nat) (Q : Int → (Nat → Nat → Int) → (Nat → Nat → Int) → Prop) : Prop := cw_O L K 11 y0 ∧ cw_G L K 5 (r y0 9) ∧ ((0 : Int) ≤ 0 ∧ 0 < (cw_n K (r y0 9) : Int)) ∧ cw_O L K 4 (cw_g K (r y0 9) ((0 : Int).toNat)) ∧ hz_rI (z (cw_g K (r y0 9) ((0 : Int).toNat)) 2) ∧ ((¬ z (cw_g K (r y0 9) ((0 : Int).toNat)) 2 = 0 → wp_c11_getsValue L K z r A y0 0 (fun rv_5 z_6 A_7 => hz_rI rv_5 ∧ ((rv_5 = 0 → wp_c11_check_34 L K z_6 r A_7  Q) ∧ (¬ (rv_5 = 0) → wp_c11_getsValue L K z_6 r A_7 y0 1 (fun rv_9 z_10 A_11 => hz_rI rv_9 ∧ ((rv_9 = 0 → wp_c11_check_34 L K z_10 r A_11  Q) ∧ (¬ (rv_9 = 0) → wp_c11_check_35 L K z_10 r A_11 1  Q))))))) ∧ (z (cw_g K (r y0 9) ((0 : Int).toNat)) 2 = 0 → Q (-1) z A))
set_option maxHeartbeats 4000000 in
set_option maxRecDepth 100000 in
theorem k_c11_check (l : Launch) (D : va_G) (sz : Nat) (C : Nat → ClassId) (L : List Nat) (K : Nat → cw_K) (z : Nat → Nat → Int) (r : Nat → Nat → Nat) (A : Nat → Nat → Int) (y0 : Nat) (Q : Int → (Nat → Nat → Int) → (Nat → Nat → Int) → Prop) (hw : wp_c11_check L K z r A y0 Q) : Met l yX11_check wsX11_check ({ frames := 6, cells := 0, slots := 0, locals := 147 } : Room) (va_Pc [.ref y0] (hm_P D (cw_w C L K z r A) (cw_t C) sz)) (va_Qi (S := Int × (Nat → Nat → Int) × (Nat → Nat → Nat) × (Nat → Nat → Int)) (fun r u => r = hz_i u.1 ∧ Q u.1 u.2.1 u.2.2.2) (fun u t => hm_B D (va_A (cw_w C L K z r A) sz) (cw_w C L K u.2.1 r u.2.2.2) (cw_t C) t) (va_A (cw_w C L K z r A) sz)) 0 0 (va_A (cw_w C L K z r A) sz) := by
  refine Met.ofW (cc := cX11_check) (maxL := 1) (ret := (some .int)) (by decide) rfl ?_
  intro p e s m args below meth c s₁ B hml hv
  obtain ⟨rfl, hsz, hP, hK, hD0, hE⟩ := hv
  have hx := B.exec
  have hb := B.bytes
  have hr := B.returns
  have hts := atoms_spec (ws := wsX11_check) B.pre
  have hown : s.vm.findClass RX11 = some m.cls := findClass_of_methodNamed B.named
  have hlocks := B.notSynchronized
  have hin4 : ∀ w ∈ u_ws RX4 TX4 6, w ∈ wsX11_check := fun w h => List.mem_cons_of_mem _ (List.mem_append_left _ (List.mem_append_left _ (List.mem_append_left _ (List.mem_append_left _ (List.mem_append_left _ (List.mem_append_left _ (List.mem_append_right _ (h))))))))
  have hin11 : ∀ w ∈ u_ws RX11 TX11 16, w ∈ wsX11_check := fun w h => List.mem_cons_of_mem _ (List.mem_append_left _ (List.mem_append_left _ (List.mem_append_left _ (List.mem_append_left _ (List.mem_append_left _ (List.mem_append_left _ (List.mem_append_left _ (List.mem_append_right _ (h)))))))))
  subst hsz
  have hD := hD0.self (sz := s.heap.size)
  generalize hAe : va_A (cw_w C L K z r A) s.heap.size = Ad at hD ⊢
  have hA : ∀ q : Nat, s.heap.size ≤ q → Ad q := fun q h => by rw [← hAe]; exact Or.inr h
  have hS : va_S Ad s.heap s.heap [] := va_S.rf
  have hl := lv_entry ([.ref y0]) (n := 1) (Nat.le_of_ble_eq_true rfl)
  rw [lg_entry_eq]
  generalize (lg_sl ([.ref y0]) ++ List.replicate (1 - (lg_sl ([.ref y0])).length) Slot.unset).toArray = ls at hl ⊢
  have hl : lv_has ls 1 [(0, .ref y0)] := hl
  refine mw_Q (fun QQ hQQ => ?_)
  have hP0 := hP; have hD0 := hD; have hS0 := hS; have hl0 := hl; have hw0 := hw
  clear hP hD hS hl hw
  have L35 : ∀ (z : Nat → Nat → Int) (A : Nat → Nat → Int) (t0 : Int), wp_c11_check_35 L K z r A t0  Q → ∀ (H : Heap) (locs : List Loc) (ls : Array Slot), va_P D vwCl (cw_w C L K z r A) H → va_D Ad (cw_w C L K z r A) → va_S Ad s.heap H locs → lv_has ls 1 [] → W p l e (headSpec wsX11_check ({ frames := 6, cells := 0, slots := 0, locals := 147 } : Room)).room s m (List.toArray [.ref y0]) below meth c H locs 0 0 QQ (F0 m 35 ls [.int (hz_i t0)]) := by
    intro z A t0 hw H locs ls hP hD hS hl
    subst hQQ
    subst hAe
    exact W.iret (v := hz_i t0) hx hb hr (fun t ht hW => ⟨⟨hz_i t0, (t0, z, r, A), rfl, ⟨rfl, hw⟩, by rw [ht]; exact hP, va_K.moved hW.alike hK, hD⟩, hS.F ht⟩) hS.2.2 dX11_check_35
  have L34 : ∀ (z : Nat → Nat → Int) (A : Nat → Nat → Int), wp_c11_check_34 L K z r A  Q → ∀ (H : Heap) (locs : List Loc) (ls : Array Slot), va_P D vwCl (cw_w C L K z r A) H → va_D Ad (cw_w C L K z r A) → va_S Ad s.heap H locs → lv_has ls 1 [] → W p l e (headSpec wsX11_check ({ frames := 6, cells := 0, slots := 0, locals := 147 } : Room)).room s m (List.toArray [.ref y0]) below meth c H locs 0 0 QQ (F0 m 34 ls []) := by
    intro z A hw H locs ls hP hD hS hl
    refine lv_iconst (v := hz_i 0) hx hb dX11_check_34 (by decide +kernel) ?_
    exact L35 z A 0 hw H locs ls hP hD hS (lv_sub hl [] rfl)
  have hP := hP0; have hD := hD0; have hS := hS0; have hl := hl0; have hw := hw0
  obtain ⟨H, hH⟩ : ∃ H : Heap, H = s.heap := ⟨_, rfl⟩
  obtain ⟨locs, hlocs⟩ : ∃ L : List Loc, L = [] := ⟨_, rfl⟩
  rw [← hH] at hP
  have hS : va_S Ad s.heap H locs := by rw [hH, hlocs]; exact hS
  refine mw_HL hH hlocs ?_
  refine lv_aload_n hx hb dX11_check_0 rfl (lv_at hl 0 rfl) ?_
  obtain ⟨hO_1, hw⟩ := hw
  refine cw_get (ci := 11) (v := .ref (r y0 9)) hx hb hts hin11 hown hK hP hO_1.1 hO_1.2 rfl 9 (by decide) (hts (.fieldLink RX11 59 "HiddenMoves" "results" "[LHiddenMoves$Ratio;") (List.mem_cons_of_mem _ (List.mem_append_left _ (List.mem_append_left _ (List.mem_append_left _ (List.mem_append_left _ (List.mem_append_left _ (List.mem_append_left _ (List.mem_append_left _ (List.mem_append_left _ (List.mem_append_left _ (List.mem_of_getElem? (i := 0) rfl)))))))))))) (fun _ h9 => h9) rfl dX11_check_1 ?_
  refine lv_iconst (v := hz_i 0) hx hb dX11_check_4 (by decide +kernel) ?_
  obtain ⟨hO_2, hw⟩ := hw
  obtain ⟨h9i, hw⟩ := hw
  refine cw_ald hx hb hK hP hO_2.1 hO_2.2.2 rfl h9i hO_2.2.1 dX11_check_5 ?_
  obtain ⟨hO_3, hw⟩ := hw
  refine cw_get (ci := 4) (v := .int (hz_i (z (cw_g K (r y0 9) ((0 : Int).toNat)) 2))) hx hb hts hin4 hown hK hP hO_3.1 hO_3.2 rfl 2 (by decide) (hts (.fieldLink RX11 235 "HiddenMoves$Ratio" "known" "Z") (List.mem_cons_of_mem _ (List.mem_append_left _ (List.mem_append_left _ (List.mem_append_left _ (List.mem_append_left _ (List.mem_append_left _ (List.mem_append_left _ (List.mem_append_left _ (List.mem_append_left _ (List.mem_append_left _ (List.mem_of_getElem? (i := 1) rfl)))))))))))) (fun _ h9 => h9) rfl dX11_check_6 ?_
  obtain ⟨h9a, hw⟩ := hw
  refine hz_if_ne (tgt := 14) hx hb dX11_check_9 (by decide) h9a (fun c_4 => ?_) (fun c_4 => ?_)
  · have hw := hw.1 c_4
    refine lv_aload_n hx hb dX11_check_14 rfl (lv_at hl 0 rfl) ?_
    refine lv_iconst (v := hz_i 0) hx hb dX11_check_15 (by decide +kernel) ?_
    have hFc := cw_free hD hS hA
    obtain ⟨q9, hq9⟩ := cw_at (C := C) (z := z) (r := r) (A := A) hO_1.1 hO_1.2
    refine va_calli (va_runV (As := [.int (hz_i 0)]) (rest := []) ⟨hx, hb, hml, hown, hts⟩ (k_c11_getsValue l D _ C L K z r A y0 0 _ hw) (cwV 1 hts gX11_check_X11_getsValue rfl rfl rfl (by decide +kernel) ⟨Nat.le_of_ble_eq_true rfl, Nat.le_of_ble_eq_true rfl⟩) ⟨hm_blind, va_recv hK hP (ci := 11) (q0 := q9) rfl hq9, hm_pre hP hK hD hE⟩ rfl rfl hl.1 rfl (lv_room (Nat.le_of_ble_eq_true rfl)) dX11_check_16 ⟨Nat.le_of_ble_eq_true rfl, Nat.le_of_ble_eq_true rfl⟩) hS (fun q _ h => hFc q h) hFc (fun rv u t H1 locs ht hvm hw hB hz1 hk1 hS => ?_)
    obtain ⟨rv_5, z_6, _, A_7⟩ := u
    obtain ⟨hP, hK1, hD1⟩ := hB
    rw [ht] at hP
    obtain ⟨hrv, hw⟩ := hw
    subst hrv
    have hD := hD1.weaken (fun k q _ h => hFc q.1 h)
    have hP : va_P D vwCl (cw_w C L K z_6 r A_7) H1 := hP
    have hD : va_D Ad (cw_w C L K z_6 r A_7) := hD
    generalize H1 = H at hP hS ⊢
    refine W.eq (g2 := F0 m 19 ls [.int (hz_i rv_5)]) rfl ?_
    obtain ⟨h9a, hw⟩ := hw
    refine hz_if_eq (tgt := 34) hx hb dX11_check_19 (by decide) h9a (fun c_8 => ?_) (fun c_8 => ?_)
    · have hw := hw.1 c_8
      exact L34 z_6 A_7 hw H locs ls hP hD hS (lv_sub hl [] rfl)
    · have hw := hw.2 c_8
      refine lv_aload_n hx hb dX11_check_22 rfl (lv_at hl 0 rfl) ?_
      refine lv_iconst (v := hz_i 1) hx hb dX11_check_23 (by decide +kernel) ?_
      have hFc := cw_free hD hS hA
      obtain ⟨q9, hq9⟩ := cw_at (C := C) (z := z_6) (r := r) (A := A_7) hO_1.1 hO_1.2
      refine va_calli (va_runV (As := [.int (hz_i 1)]) (rest := []) ⟨hx, hb, hml, hown, hts⟩ (k_c11_getsValue l D _ C L K z_6 r A_7 y0 1 _ hw) (cwV 1 hts gX11_check_X11_getsValue rfl rfl rfl (by decide +kernel) ⟨Nat.le_of_ble_eq_true rfl, Nat.le_of_ble_eq_true rfl⟩) ⟨hm_blind, va_recv hK hP (ci := 11) (q0 := q9) rfl hq9, hm_pre hP hK hD hE⟩ rfl rfl hl.1 rfl (lv_room (Nat.le_of_ble_eq_true rfl)) dX11_check_24 ⟨Nat.le_of_ble_eq_true rfl, Nat.le_of_ble_eq_true rfl⟩) hS (fun q _ h => hFc q h) hFc (fun rv u t H1 locs ht hvm hw hB hz1 hk1 hS => ?_)
      obtain ⟨rv_9, z_10, _, A_11⟩ := u
      obtain ⟨hP, hK1, hD1⟩ := hB
      rw [ht] at hP
      obtain ⟨hrv, hw⟩ := hw
      subst hrv
      have hD := hD1.weaken (fun k q _ h => hFc q.1 h)
      have hP : va_P D vwCl (cw_w C L K z_10 r A_11) H1 := hP
      have hD : va_D Ad (cw_w C L K z_10 r A_11) := hD
      generalize H1 = H at hP hS ⊢
      refine W.eq (g2 := F0 m 27 ls [.int (hz_i rv_9)]) rfl ?_
      obtain ⟨h9a, hw⟩ := hw
      refine hz_if_eq (tgt := 34) hx hb dX11_check_27 (by decide) h9a (fun c_12 => ?_) (fun c_12 => ?_)
      · have hw := hw.1 c_12
        exact L34 z_10 A_11 hw H locs ls hP hD hS (lv_sub hl [] rfl)
      · have hw := hw.2 c_12
        refine lv_iconst (v := hz_i 1) hx hb dX11_check_30 (by decide +kernel) ?_
        refine lv_goto (tgt := 35) hx hb dX11_check_31 (by decide) ?_
        exact L35 z_10 A_11 1 hw H locs ls hP hD hS (lv_sub hl [] rfl)
  · have hw := hw.2 c_4
    refine lv_iconst (v := hz_i (-1)) hx hb dX11_check_12 (by decide +kernel) ?_
    subst hQQ
    subst hAe
    exact W.iret (v := hz_i (-1)) hx hb hr (fun t ht hW => ⟨⟨hz_i (-1), ((-1), z, r, A), rfl, ⟨rfl, hw⟩, by rw [ht]; exact hP, va_K.moved hW.alike hK, hD⟩, hS.F ht⟩) hS.2.2 dX11_check_13

noncomputable def wp_c11_isKnown_26 (L : List Nat) (K : Nat → cw_K) (z : Nat → Nat → Int) (r : Nat → Nat → Nat) (A : Nat → Nat → Int) (t0 : Int) (Q : Int → Prop) : Prop := (t0 = 0 ∨ t0 = 1) ∧ Q t0
noncomputable def wp_c11_isKnown_25 (L : List Nat) (K : Nat → cw_K) (z : Nat → Nat → Int) (r : Nat → Nat → Nat) (A : Nat → Nat → Int) (Q : Int → Prop) : Prop := wp_c11_isKnown_26 L K z r A 0  Q
noncomputable def wp_c11_isKnown (L : List Nat) (K : Nat → cw_K) (z : Nat → Nat → Int) (r : Nat → Nat → Nat) (A : Nat → Nat → Int) (y0 : Nat) (y1 : Int) (Q : Int → Prop) : Prop := hz_rI y1 ∧ ((y1 < 0 → wp_c11_isKnown_25 L K z r A  Q) ∧ (¬ (y1 < 0) → hz_rI y1 ∧ ((4 ≤ y1 → wp_c11_isKnown_25 L K z r A  Q) ∧ (¬ (4 ≤ y1) → cw_O L K 11 y0 ∧ cw_G L K 5 (r y0 9) ∧ ((0 : Int) ≤ y1 ∧ y1 < (cw_n K (r y0 9) : Int)) ∧ cw_O L K 4 (cw_g K (r y0 9) (y1.toNat)) ∧ hz_rI (z (cw_g K (r y0 9) (y1.toNat)) 2) ∧ ((z (cw_g K (r y0 9) (y1.toNat)) 2 = 0 → wp_c11_isKnown_25 L K z r A  Q) ∧ (¬ (z (cw_g K (r y0 9) (y1.toNat)) 2 = 0) → wp_c11_isKnown_26 L K z r A 1  Q))))))
set_option maxHeartbeats 4000000 in
set_option maxRecDepth 100000 in
theorem k_c11_isKnown (l : Launch) (D : va_G) (sz : Nat) (C : Nat → ClassId) (L : List Nat) (K : Nat → cw_K) (z : Nat → Nat → Int) (r : Nat → Nat → Nat) (A : Nat → Nat → Int) (y0 : Nat) (y1 : Int) (Q : Int → Prop) (hw : wp_c11_isKnown L K z r A y0 y1 Q) : Met l yX11_isKnown wsX11_isKnown ({ frames := 0, cells := 0, slots := 0, locals := 0 } : Room) (va_Pc [.ref y0, .int (hz_i y1)] (hm_P D (cw_w C L K z r A) (cw_t C) sz)) (va_Qi (S := Int × (Nat → Nat → Int) × (Nat → Nat → Nat) × (Nat → Nat → Int)) (fun r u => r = hz_i u.1 ∧ Q u.1) (fun u t => hm_B D (va_A (cw_w C L K z r A) sz) (cw_w C L K z r A) (cw_t C) t) (va_A (cw_w C L K z r A) sz)) 0 0 (va_A (cw_w C L K z r A) sz) := by
  refine Met.ofW (cc := cX11_isKnown) (maxL := 2) (ret := (some .boolean)) (by decide) rfl ?_
  intro p e s m args below meth c s₁ B hml hv
  obtain ⟨rfl, hsz, hP, hK, hD0, hE⟩ := hv
  have hx := B.exec
  have hb := B.bytes
  have hr := B.returns
  have hts := atoms_spec (ws := wsX11_isKnown) B.pre
  have hown : s.vm.findClass RX11 = some m.cls := findClass_of_methodNamed B.named
  have hlocks := B.notSynchronized
  have hin4 : ∀ w ∈ u_ws RX4 TX4 6, w ∈ wsX11_isKnown := fun w h => List.mem_cons_of_mem _ (List.mem_append_right _ (h))
  have hin11 : ∀ w ∈ u_ws RX11 TX11 16, w ∈ wsX11_isKnown := fun w h => List.mem_cons_of_mem _ (List.mem_append_left _ (List.mem_append_right _ (h)))
  subst hsz
  have hD := hD0.self (sz := s.heap.size)
  generalize hAe : va_A (cw_w C L K z r A) s.heap.size = Ad at hD ⊢
  have hA : ∀ q : Nat, s.heap.size ≤ q → Ad q := fun q h => by rw [← hAe]; exact Or.inr h
  have hS : va_S Ad s.heap s.heap [] := va_S.rf
  have hl := lv_entry ([.ref y0, .int (hz_i y1)]) (n := 2) (Nat.le_of_ble_eq_true rfl)
  rw [lg_entry_eq]
  generalize (lg_sl ([.ref y0, .int (hz_i y1)]) ++ List.replicate (2 - (lg_sl ([.ref y0, .int (hz_i y1)])).length) Slot.unset).toArray = ls at hl ⊢
  have hl : lv_has ls 2 [(0, .ref y0), (1, .int (hz_i y1))] := hl
  refine mw_Q (fun QQ hQQ => ?_)
  have hP0 := hP; have hD0 := hD; have hS0 := hS; have hl0 := hl; have hw0 := hw
  clear hP hD hS hl hw
  have L26 : ∀ (t0 : Int), wp_c11_isKnown_26 L K z r A t0  Q → ∀ (H : Heap) (locs : List Loc) (ls : Array Slot), va_P D vwCl (cw_w C L K z r A) H → va_D Ad (cw_w C L K z r A) → va_S Ad s.heap H locs → lv_has ls 2 [] → W p l e (headSpec wsX11_isKnown ({ frames := 0, cells := 0, slots := 0, locals := 0 } : Room)).room s m (List.toArray [.ref y0, .int (hz_i y1)]) below meth c H locs 0 0 QQ (F0 m 26 ls [.int (hz_i t0)]) := by
    intro t0 hw H locs ls hP hD hS hl
    obtain ⟨h9z, hw⟩ := hw
    subst hQQ
    subst hAe
    exact W.zret (v := hz_i t0) hx hb hr (hz_tZ h9z) (fun t ht hW => ⟨⟨hz_i t0, (t0, z, r, A), rfl, ⟨rfl, hw⟩, by rw [ht]; exact hP, va_K.moved hW.alike hK, hD⟩, hS.F ht⟩) hS.2.2 dX11_isKnown_26
  have L25 : wp_c11_isKnown_25 L K z r A  Q → ∀ (H : Heap) (locs : List Loc) (ls : Array Slot), va_P D vwCl (cw_w C L K z r A) H → va_D Ad (cw_w C L K z r A) → va_S Ad s.heap H locs → lv_has ls 2 [] → W p l e (headSpec wsX11_isKnown ({ frames := 0, cells := 0, slots := 0, locals := 0 } : Room)).room s m (List.toArray [.ref y0, .int (hz_i y1)]) below meth c H locs 0 0 QQ (F0 m 25 ls []) := by
    intro  hw H locs ls hP hD hS hl
    refine lv_iconst (v := hz_i 0) hx hb dX11_isKnown_25 (by decide +kernel) ?_
    exact L26 0 hw H locs ls hP hD hS (lv_sub hl [] rfl)
  have hP := hP0; have hD := hD0; have hS := hS0; have hl := hl0; have hw := hw0
  obtain ⟨H, hH⟩ : ∃ H : Heap, H = s.heap := ⟨_, rfl⟩
  obtain ⟨locs, hlocs⟩ : ∃ L : List Loc, L = [] := ⟨_, rfl⟩
  rw [← hH] at hP
  have hS : va_S Ad s.heap H locs := by rw [hH, hlocs]; exact hS
  refine mw_HL hH hlocs ?_
  refine lv_iload_n hx hb dX11_isKnown_0 rfl (lv_at hl 1 rfl) ?_
  obtain ⟨h9a, hw⟩ := hw
  refine hz_if_lt (tgt := 25) hx hb dX11_isKnown_1 (by decide) h9a (fun c_1 => ?_) (fun c_1 => ?_)
  · have hw := hw.1 c_1
    exact L25  hw H locs ls hP hD hS (lv_sub hl [] rfl)
  · have hw := hw.2 c_1
    refine lv_iload_n hx hb dX11_isKnown_4 rfl (lv_at hl 1 rfl) ?_
    refine lv_iconst (v := hz_i 4) hx hb dX11_isKnown_5 (by decide +kernel) ?_
    obtain ⟨h9a, hw⟩ := hw
    refine hz_icmp_ge (tgt := 25) hx hb dX11_isKnown_6 (by decide) h9a ⟨by decide, by decide⟩ (fun c_2 => ?_) (fun c_2 => ?_)
    · have hw := hw.1 c_2
      exact L25  hw H locs ls hP hD hS (lv_sub hl [] rfl)
    · have hw := hw.2 c_2
      refine lv_aload_n hx hb dX11_isKnown_9 rfl (lv_at hl 0 rfl) ?_
      obtain ⟨hO_3, hw⟩ := hw
      refine cw_get (ci := 11) (v := .ref (r y0 9)) hx hb hts hin11 hown hK hP hO_3.1 hO_3.2 rfl 9 (by decide) (hts (.fieldLink RX11 59 "HiddenMoves" "results" "[LHiddenMoves$Ratio;") (List.mem_cons_of_mem _ (List.mem_append_left _ (List.mem_append_left _ (List.mem_of_getElem? (i := 0) rfl))))) (fun _ h9 => h9) rfl dX11_isKnown_10 ?_
      refine lv_iload_n hx hb dX11_isKnown_13 rfl (lv_at hl 1 rfl) ?_
      obtain ⟨hO_4, hw⟩ := hw
      obtain ⟨h9i, hw⟩ := hw
      refine cw_ald hx hb hK hP hO_4.1 hO_4.2.2 rfl h9i hO_4.2.1 dX11_isKnown_14 ?_
      obtain ⟨hO_5, hw⟩ := hw
      refine cw_get (ci := 4) (v := .int (hz_i (z (cw_g K (r y0 9) (y1.toNat)) 2))) hx hb hts hin4 hown hK hP hO_5.1 hO_5.2 rfl 2 (by decide) (hts (.fieldLink RX11 235 "HiddenMoves$Ratio" "known" "Z") (List.mem_cons_of_mem _ (List.mem_append_left _ (List.mem_append_left _ (List.mem_of_getElem? (i := 1) rfl))))) (fun _ h9 => h9) rfl dX11_isKnown_15 ?_
      obtain ⟨h9a, hw⟩ := hw
      refine hz_if_eq (tgt := 25) hx hb dX11_isKnown_18 (by decide) h9a (fun c_6 => ?_) (fun c_6 => ?_)
      · have hw := hw.1 c_6
        exact L25  hw H locs ls hP hD hS (lv_sub hl [] rfl)
      · have hw := hw.2 c_6
        refine lv_iconst (v := hz_i 1) hx hb dX11_isKnown_21 (by decide +kernel) ?_
        refine lv_goto (tgt := 26) hx hb dX11_isKnown_22 (by decide) ?_
        exact L26 1 hw H locs ls hP hD hS (lv_sub hl [] rfl)

noncomputable def wp_c11_compare_36 (L : List Nat) (K : Nat → cw_K) (z : Nat → Nat → Int) (r : Nat → Nat → Nat) (A : Nat → Nat → Int) (t0 : Int) (Q : Int → (Nat → Nat → Int) → (Nat → Nat → Int) → Prop) : Prop := Q t0 z A
noncomputable def wp_c11_compare_34 (L : List Nat) (K : Nat → cw_K) (z : Nat → Nat → Int) (r : Nat → Nat → Nat) (A : Nat → Nat → Int) (Q : Int → (Nat → Nat → Int) → (Nat → Nat → Int) → Prop) : Prop := wp_c11_compare_36 L K z r A (-2)  Q
noncomputable def wp_c11_compare (L : List Nat) (K : Nat → cw_K) (z : Nat → Nat → Int) (r : Nat → Nat → Nat) (A : Nat → Nat → Int) (y0 : Nat) (y1 : Int) (y2 : Int) (Q : Int → (Nat → Nat → Int) → (Nat → Nat → Int) → Prop) : Prop := cw_O L K 11 y0 ∧ wp_c11_isKnown L K z r A y0 y1 (fun rv_1 => hz_rI rv_1 ∧ ((rv_1 = 0 → wp_c11_compare_34 L K z r A  Q) ∧ (¬ (rv_1 = 0) → wp_c11_isKnown L K z r A y0 y2 (fun rv_4 => hz_rI rv_4 ∧ ((rv_4 = 0 → wp_c11_compare_34 L K z r A  Q) ∧ (¬ (rv_4 = 0) → cw_G L K 5 (r y0 9) ∧ ((0 : Int) ≤ y1 ∧ y1 < (cw_n K (r y0 9) : Int)) ∧ ((0 : Int) ≤ y2 ∧ y2 < (cw_n K (r y0 9) : Int)) ∧ cw_O L K 4 (cw_g K (r y0 9) (y1.toNat)) ∧ wp_c4_order L K z r A (cw_g K (r y0 9) (y1.toNat)) (cw_g K (r y0 9) (y2.toNat)) (fun rv_7 z_8 A_9 => wp_c11_compare_36 L K z_8 r A_9 rv_7  Q)))))))
set_option maxHeartbeats 4000000 in
set_option maxRecDepth 100000 in
theorem k_c11_compare (l : Launch) (D : va_G) (sz : Nat) (C : Nat → ClassId) (L : List Nat) (K : Nat → cw_K) (z : Nat → Nat → Int) (r : Nat → Nat → Nat) (A : Nat → Nat → Int) (y0 : Nat) (y1 : Int) (y2 : Int) (Q : Int → (Nat → Nat → Int) → (Nat → Nat → Int) → Prop) (hw : wp_c11_compare L K z r A y0 y1 y2 Q) : Met l yX11_compare wsX11_compare ({ frames := 4, cells := 0, slots := 0, locals := 94 } : Room) (va_Pc [.ref y0, .int (hz_i y1), .int (hz_i y2)] (hm_P D (cw_w C L K z r A) (cw_t C) sz)) (va_Qi (S := Int × (Nat → Nat → Int) × (Nat → Nat → Nat) × (Nat → Nat → Int)) (fun r u => r = hz_i u.1 ∧ Q u.1 u.2.1 u.2.2.2) (fun u t => hm_B D (va_A (cw_w C L K z r A) sz) (cw_w C L K u.2.1 r u.2.2.2) (cw_t C) t) (va_A (cw_w C L K z r A) sz)) 0 0 (va_A (cw_w C L K z r A) sz) := by
  refine Met.ofW (cc := cX11_compare) (maxL := 3) (ret := (some .int)) (by decide) rfl ?_
  intro p e s m args below meth c s₁ B hml hv
  obtain ⟨rfl, hsz, hP, hK, hD0, hE⟩ := hv
  have hx := B.exec
  have hb := B.bytes
  have hr := B.returns
  have hts := atoms_spec (ws := wsX11_compare) B.pre
  have hown : s.vm.findClass RX11 = some m.cls := findClass_of_methodNamed B.named
  have hlocks := B.notSynchronized
  have hin11 : ∀ w ∈ u_ws RX11 TX11 16, w ∈ wsX11_compare := fun w h => List.mem_cons_of_mem _ (List.mem_append_left _ (List.mem_append_left _ (List.mem_append_right _ (h))))
  subst hsz
  have hD := hD0.self (sz := s.heap.size)
  generalize hAe : va_A (cw_w C L K z r A) s.heap.size = Ad at hD ⊢
  have hA : ∀ q : Nat, s.heap.size ≤ q → Ad q := fun q h => by rw [← hAe]; exact Or.inr h
  have hS : va_S Ad s.heap s.heap [] := va_S.rf
  have hl := lv_entry ([.ref y0, .int (hz_i y1), .int (hz_i y2)]) (n := 3) (Nat.le_of_ble_eq_true rfl)
  rw [lg_entry_eq]
  generalize (lg_sl ([.ref y0, .int (hz_i y1), .int (hz_i y2)]) ++ List.replicate (3 - (lg_sl ([.ref y0, .int (hz_i y1), .int (hz_i y2)])).length) Slot.unset).toArray = ls at hl ⊢
  have hl : lv_has ls 3 [(0, .ref y0), (1, .int (hz_i y1)), (2, .int (hz_i y2))] := hl
  refine mw_Q (fun QQ hQQ => ?_)
  have hP0 := hP; have hD0 := hD; have hS0 := hS; have hl0 := hl; have hw0 := hw
  clear hP hD hS hl hw
  have L36 : ∀ (z : Nat → Nat → Int) (A : Nat → Nat → Int) (t0 : Int), wp_c11_compare_36 L K z r A t0  Q → ∀ (H : Heap) (locs : List Loc) (ls : Array Slot), va_P D vwCl (cw_w C L K z r A) H → va_D Ad (cw_w C L K z r A) → va_S Ad s.heap H locs → lv_has ls 3 [] → W p l e (headSpec wsX11_compare ({ frames := 4, cells := 0, slots := 0, locals := 94 } : Room)).room s m (List.toArray [.ref y0, .int (hz_i y1), .int (hz_i y2)]) below meth c H locs 0 0 QQ (F0 m 36 ls [.int (hz_i t0)]) := by
    intro z A t0 hw H locs ls hP hD hS hl
    subst hQQ
    subst hAe
    exact W.iret (v := hz_i t0) hx hb hr (fun t ht hW => ⟨⟨hz_i t0, (t0, z, r, A), rfl, ⟨rfl, hw⟩, by rw [ht]; exact hP, va_K.moved hW.alike hK, hD⟩, hS.F ht⟩) hS.2.2 dX11_compare_36
  have L34 : ∀ (z : Nat → Nat → Int) (A : Nat → Nat → Int), wp_c11_compare_34 L K z r A  Q → ∀ (H : Heap) (locs : List Loc) (ls : Array Slot), va_P D vwCl (cw_w C L K z r A) H → va_D Ad (cw_w C L K z r A) → va_S Ad s.heap H locs → lv_has ls 3 [] → W p l e (headSpec wsX11_compare ({ frames := 4, cells := 0, slots := 0, locals := 94 } : Room)).room s m (List.toArray [.ref y0, .int (hz_i y1), .int (hz_i y2)]) below meth c H locs 0 0 QQ (F0 m 34 ls []) := by
    intro z A hw H locs ls hP hD hS hl
    refine lv_bipush (v := hz_i (-2)) hx hb dX11_compare_34 (by decide +kernel) ?_
    exact L36 z A (-2) hw H locs ls hP hD hS (lv_sub hl [] rfl)
  have hP := hP0; have hD := hD0; have hS := hS0; have hl := hl0; have hw := hw0
  obtain ⟨H, hH⟩ : ∃ H : Heap, H = s.heap := ⟨_, rfl⟩
  obtain ⟨locs, hlocs⟩ : ∃ L : List Loc, L = [] := ⟨_, rfl⟩
  rw [← hH] at hP
  have hS : va_S Ad s.heap H locs := by rw [hH, hlocs]; exact hS
  refine mw_HL hH hlocs ?_
  refine lv_aload_n hx hb dX11_compare_0 rfl (lv_at hl 0 rfl) ?_
  refine lv_iload_n hx hb dX11_compare_1 rfl (lv_at hl 1 rfl) ?_
  obtain ⟨hO_2, hw⟩ := hw
  have hFc := cw_free hD hS hA
  obtain ⟨q9, hq9⟩ := cw_at (C := C) (z := z) (r := r) (A := A) hO_2.1 hO_2.2
  refine va_calli (va_runV (As := [.int (hz_i y1)]) (rest := []) ⟨hx, hb, hml, hown, hts⟩ (k_c11_isKnown l D _ C L K z r A y0 y1 _ hw) (cwV 1 hts gX11_compare_X11_isKnown rfl rfl rfl (by decide +kernel) ⟨Nat.le_of_ble_eq_true rfl, Nat.le_of_ble_eq_true rfl⟩) ⟨hm_blind, va_recv hK hP (ci := 11) (q0 := q9) rfl hq9, hm_pre hP hK hD hE⟩ rfl rfl hl.1 rfl (lv_room (Nat.le_of_ble_eq_true rfl)) dX11_compare_2 ⟨Nat.le_of_ble_eq_true rfl, Nat.le_of_ble_eq_true rfl⟩) hS (fun q _ h => hFc q h) hFc (fun rv u t H1 locs ht hvm hw hB hz1 hk1 hS => ?_)
  obtain ⟨rv_1, _, _, _⟩ := u
  obtain ⟨hP, hK1, hD1⟩ := hB
  rw [ht] at hP
  obtain ⟨hrv, hw⟩ := hw
  subst hrv
  have hD := hD1.weaken (fun k q _ h => hFc q.1 h)
  have hP : va_P D vwCl (cw_w C L K z r A) H1 := hP
  have hD : va_D Ad (cw_w C L K z r A) := hD
  generalize H1 = H at hP hS ⊢
  refine W.eq (g2 := F0 m 5 ls [.int (hz_i rv_1)]) rfl ?_
  obtain ⟨h9a, hw⟩ := hw
  refine hz_if_eq (tgt := 34) hx hb dX11_compare_5 (by decide) h9a (fun c_3 => ?_) (fun c_3 => ?_)
  · have hw := hw.1 c_3
    exact L34 z A hw H locs ls hP hD hS (lv_sub hl [] rfl)
  · have hw := hw.2 c_3
    refine lv_aload_n hx hb dX11_compare_8 rfl (lv_at hl 0 rfl) ?_
    refine lv_iload_n hx hb dX11_compare_9 rfl (lv_at hl 2 rfl) ?_
    have hFc := cw_free hD hS hA
    obtain ⟨q9, hq9⟩ := cw_at (C := C) (z := z) (r := r) (A := A) hO_2.1 hO_2.2
    refine va_calli (va_runV (As := [.int (hz_i y2)]) (rest := []) ⟨hx, hb, hml, hown, hts⟩ (k_c11_isKnown l D _ C L K z r A y0 y2 _ hw) (cwV 1 hts gX11_compare_X11_isKnown rfl rfl rfl (by decide +kernel) ⟨Nat.le_of_ble_eq_true rfl, Nat.le_of_ble_eq_true rfl⟩) ⟨hm_blind, va_recv hK hP (ci := 11) (q0 := q9) rfl hq9, hm_pre hP hK hD hE⟩ rfl rfl hl.1 rfl (lv_room (Nat.le_of_ble_eq_true rfl)) dX11_compare_10 ⟨Nat.le_of_ble_eq_true rfl, Nat.le_of_ble_eq_true rfl⟩) hS (fun q _ h => hFc q h) hFc (fun rv u t H1 locs ht hvm hw hB hz1 hk1 hS => ?_)
    obtain ⟨rv_4, _, _, _⟩ := u
    obtain ⟨hP, hK1, hD1⟩ := hB
    rw [ht] at hP
    obtain ⟨hrv, hw⟩ := hw
    subst hrv
    have hD := hD1.weaken (fun k q _ h => hFc q.1 h)
    have hP : va_P D vwCl (cw_w C L K z r A) H1 := hP
    have hD : va_D Ad (cw_w C L K z r A) := hD
    generalize H1 = H at hP hS ⊢
    refine W.eq (g2 := F0 m 13 ls [.int (hz_i rv_4)]) rfl ?_
    obtain ⟨h9a, hw⟩ := hw
    refine hz_if_eq (tgt := 34) hx hb dX11_compare_13 (by decide) h9a (fun c_5 => ?_) (fun c_5 => ?_)
    · have hw := hw.1 c_5
      exact L34 z A hw H locs ls hP hD hS (lv_sub hl [] rfl)
    · have hw := hw.2 c_5
      refine lv_aload_n hx hb dX11_compare_16 rfl (lv_at hl 0 rfl) ?_
      refine cw_get (ci := 11) (v := .ref (r y0 9)) hx hb hts hin11 hown hK hP hO_2.1 hO_2.2 rfl 9 (by decide) (hts (.fieldLink RX11 59 "HiddenMoves" "results" "[LHiddenMoves$Ratio;") (List.mem_cons_of_mem _ (List.mem_append_left _ (List.mem_append_left _ (List.mem_append_left _ (List.mem_append_left _ (List.mem_of_getElem? (i := 0) rfl))))))) (fun _ h9 => h9) rfl dX11_compare_17 ?_
      refine lv_iload_n hx hb dX11_compare_20 rfl (lv_at hl 1 rfl) ?_
      obtain ⟨hO_6, hw⟩ := hw
      obtain ⟨h9i, hw⟩ := hw
      refine cw_ald hx hb hK hP hO_6.1 hO_6.2.2 rfl h9i hO_6.2.1 dX11_compare_21 ?_
      refine lv_aload_n hx hb dX11_compare_22 rfl (lv_at hl 0 rfl) ?_
      refine cw_get (ci := 11) (v := .ref (r y0 9)) hx hb hts hin11 hown hK hP hO_2.1 hO_2.2 rfl 9 (by decide) (hts (.fieldLink RX11 59 "HiddenMoves" "results" "[LHiddenMoves$Ratio;") (List.mem_cons_of_mem _ (List.mem_append_left _ (List.mem_append_left _ (List.mem_append_left _ (List.mem_append_left _ (List.mem_of_getElem? (i := 0) rfl))))))) (fun _ h9 => h9) rfl dX11_compare_23 ?_
      refine lv_iload_n hx hb dX11_compare_26 rfl (lv_at hl 2 rfl) ?_
      obtain ⟨h9i, hw⟩ := hw
      refine cw_ald hx hb hK hP hO_6.1 hO_6.2.2 rfl h9i hO_6.2.1 dX11_compare_27 ?_
      obtain ⟨hO_10, hw⟩ := hw
      have hFc := cw_free hD hS hA
      obtain ⟨q9, hq9⟩ := cw_at (C := C) (z := z) (r := r) (A := A) hO_10.1 hO_10.2
      refine va_calli (va_runV (As := [.ref (cw_g K (r y0 9) (y2.toNat))]) (rest := []) ⟨hx, hb, hml, hown, hts⟩ (k_c4_order l D _ C L K z r A (cw_g K (r y0 9) (y1.toNat)) (cw_g K (r y0 9) (y2.toNat)) _ hw) (cwV 1 hts gX11_compare_X4_order rfl rfl rfl (by decide +kernel) ⟨Nat.le_of_ble_eq_true rfl, Nat.le_of_ble_eq_true rfl⟩) ⟨hm_blind, va_recv hK hP (ci := 4) (q0 := q9) rfl hq9, hm_pre hP hK hD hE⟩ rfl rfl hl.1 rfl (lv_room (Nat.le_of_ble_eq_true rfl)) dX11_compare_28 ⟨Nat.le_of_ble_eq_true rfl, Nat.le_of_ble_eq_true rfl⟩) hS (fun q _ h => hFc q h) hFc (fun rv u t H1 locs ht hvm hw hB hz1 hk1 hS => ?_)
      obtain ⟨rv_7, z_8, _, A_9⟩ := u
      obtain ⟨hP, hK1, hD1⟩ := hB
      rw [ht] at hP
      obtain ⟨hrv, hw⟩ := hw
      subst hrv
      have hD := hD1.weaken (fun k q _ h => hFc q.1 h)
      have hP : va_P D vwCl (cw_w C L K z_8 r A_9) H1 := hP
      have hD : va_D Ad (cw_w C L K z_8 r A_9) := hD
      generalize H1 = H at hP hS ⊢
      refine W.eq (g2 := F0 m 31 ls [.int (hz_i rv_7)]) rfl ?_
      refine lv_goto (tgt := 36) hx hb dX11_compare_31 (by decide) ?_
      exact L36 z_8 A_9 rv_7 hw H locs ls hP hD hS (lv_sub hl [] rfl)

noncomputable def wp_c11_count_29 (L : List Nat) (K : Nat → cw_K) (z : Nat → Nat → Int) (r : Nat → Nat → Nat) (A : Nat → Nat → Int) (t0 : Int) (Q : Int → Prop) : Prop := Q t0
noncomputable def wp_c11_count_28 (L : List Nat) (K : Nat → cw_K) (z : Nat → Nat → Int) (r : Nat → Nat → Nat) (A : Nat → Nat → Int) (Q : Int → Prop) : Prop := wp_c11_count_29 L K z r A (-1)  Q
noncomputable def wp_c11_count (L : List Nat) (K : Nat → cw_K) (z : Nat → Nat → Int) (r : Nat → Nat → Nat) (A : Nat → Nat → Int) (y0 : Nat) (y1 : Int) (Q : Int → Prop) : Prop := cw_O L K 11 y0 ∧ hz_rI (z y0 14) ∧ ((z y0 14 = 0 → wp_c11_count_28 L K z r A  Q) ∧ (¬ (z y0 14 = 0) → hz_rI y1 ∧ ((y1 < 0 → wp_c11_count_28 L K z r A  Q) ∧ (¬ (y1 < 0) → hz_rI y1 ∧ ((4 ≤ y1 → wp_c11_count_28 L K z r A  Q) ∧ (¬ (4 ≤ y1) → cw_O L K 2 (r y0 13) ∧ cw_A L K 0 (r (r y0 13) 0) ∧ ((0 : Int) ≤ y1 ∧ y1 < (cw_n K (r (r y0 13) 0) : Int)) ∧ wp_c11_count_29 L K z r A (A (r (r y0 13) 0) (y1.toNat))  Q))))))
set_option maxHeartbeats 4000000 in
set_option maxRecDepth 100000 in
theorem k_c11_count (l : Launch) (D : va_G) (sz : Nat) (C : Nat → ClassId) (L : List Nat) (K : Nat → cw_K) (z : Nat → Nat → Int) (r : Nat → Nat → Nat) (A : Nat → Nat → Int) (y0 : Nat) (y1 : Int) (Q : Int → Prop) (hw : wp_c11_count L K z r A y0 y1 Q) : Met l yX11_count wsX11_count ({ frames := 0, cells := 0, slots := 0, locals := 0 } : Room) (va_Pc [.ref y0, .int (hz_i y1)] (hm_P D (cw_w C L K z r A) (cw_t C) sz)) (va_Qi (S := Int × (Nat → Nat → Int) × (Nat → Nat → Nat) × (Nat → Nat → Int)) (fun r u => r = hz_i u.1 ∧ Q u.1) (fun u t => hm_B D (va_A (cw_w C L K z r A) sz) (cw_w C L K z r A) (cw_t C) t) (va_A (cw_w C L K z r A) sz)) 0 0 (va_A (cw_w C L K z r A) sz) := by
  refine Met.ofW (cc := cX11_count) (maxL := 2) (ret := (some .int)) (by decide) rfl ?_
  intro p e s m args below meth c s₁ B hml hv
  obtain ⟨rfl, hsz, hP, hK, hD0, hE⟩ := hv
  have hx := B.exec
  have hb := B.bytes
  have hr := B.returns
  have hts := atoms_spec (ws := wsX11_count) B.pre
  have hown : s.vm.findClass RX11 = some m.cls := findClass_of_methodNamed B.named
  have hlocks := B.notSynchronized
  have hin2 : ∀ w ∈ u_ws RX2 TX2 4, w ∈ wsX11_count := fun w h => List.mem_cons_of_mem _ (List.mem_append_right _ (h))
  have hin11 : ∀ w ∈ u_ws RX11 TX11 16, w ∈ wsX11_count := fun w h => List.mem_cons_of_mem _ (List.mem_append_left _ (List.mem_append_right _ (h)))
  subst hsz
  have hD := hD0.self (sz := s.heap.size)
  generalize hAe : va_A (cw_w C L K z r A) s.heap.size = Ad at hD ⊢
  have hA : ∀ q : Nat, s.heap.size ≤ q → Ad q := fun q h => by rw [← hAe]; exact Or.inr h
  have hS : va_S Ad s.heap s.heap [] := va_S.rf
  have hl := lv_entry ([.ref y0, .int (hz_i y1)]) (n := 2) (Nat.le_of_ble_eq_true rfl)
  rw [lg_entry_eq]
  generalize (lg_sl ([.ref y0, .int (hz_i y1)]) ++ List.replicate (2 - (lg_sl ([.ref y0, .int (hz_i y1)])).length) Slot.unset).toArray = ls at hl ⊢
  have hl : lv_has ls 2 [(0, .ref y0), (1, .int (hz_i y1))] := hl
  refine mw_Q (fun QQ hQQ => ?_)
  have hP0 := hP; have hD0 := hD; have hS0 := hS; have hl0 := hl; have hw0 := hw
  clear hP hD hS hl hw
  have L29 : ∀ (t0 : Int), wp_c11_count_29 L K z r A t0  Q → ∀ (H : Heap) (locs : List Loc) (ls : Array Slot), va_P D vwCl (cw_w C L K z r A) H → va_D Ad (cw_w C L K z r A) → va_S Ad s.heap H locs → lv_has ls 2 [] → W p l e (headSpec wsX11_count ({ frames := 0, cells := 0, slots := 0, locals := 0 } : Room)).room s m (List.toArray [.ref y0, .int (hz_i y1)]) below meth c H locs 0 0 QQ (F0 m 29 ls [.int (hz_i t0)]) := by
    intro t0 hw H locs ls hP hD hS hl
    subst hQQ
    subst hAe
    exact W.iret (v := hz_i t0) hx hb hr (fun t ht hW => ⟨⟨hz_i t0, (t0, z, r, A), rfl, ⟨rfl, hw⟩, by rw [ht]; exact hP, va_K.moved hW.alike hK, hD⟩, hS.F ht⟩) hS.2.2 dX11_count_29
  have L28 : wp_c11_count_28 L K z r A  Q → ∀ (H : Heap) (locs : List Loc) (ls : Array Slot), va_P D vwCl (cw_w C L K z r A) H → va_D Ad (cw_w C L K z r A) → va_S Ad s.heap H locs → lv_has ls 2 [] → W p l e (headSpec wsX11_count ({ frames := 0, cells := 0, slots := 0, locals := 0 } : Room)).room s m (List.toArray [.ref y0, .int (hz_i y1)]) below meth c H locs 0 0 QQ (F0 m 28 ls []) := by
    intro  hw H locs ls hP hD hS hl
    refine lv_iconst (v := hz_i (-1)) hx hb dX11_count_28 (by decide +kernel) ?_
    exact L29 (-1) hw H locs ls hP hD hS (lv_sub hl [] rfl)
  have hP := hP0; have hD := hD0; have hS := hS0; have hl := hl0; have hw := hw0
  obtain ⟨H, hH⟩ : ∃ H : Heap, H = s.heap := ⟨_, rfl⟩
  obtain ⟨locs, hlocs⟩ : ∃ L : List Loc, L = [] := ⟨_, rfl⟩
  rw [← hH] at hP
  have hS : va_S Ad s.heap H locs := by rw [hH, hlocs]; exact hS
  refine mw_HL hH hlocs ?_
  refine lv_aload_n hx hb dX11_count_0 rfl (lv_at hl 0 rfl) ?_
  obtain ⟨hO_1, hw⟩ := hw
  refine cw_get (ci := 11) (v := .int (hz_i (z y0 14))) hx hb hts hin11 hown hK hP hO_1.1 hO_1.2 rfl 14 (by decide) (hts (.fieldLink RX11 87 "HiddenMoves" "hasGame" "Z") (List.mem_cons_of_mem _ (List.mem_append_left _ (List.mem_append_left _ (List.mem_of_getElem? (i := 0) rfl))))) (fun _ h9 => h9) rfl dX11_count_1 ?_
  obtain ⟨h9a, hw⟩ := hw
  refine hz_if_eq (tgt := 28) hx hb dX11_count_4 (by decide) h9a (fun c_2 => ?_) (fun c_2 => ?_)
  · have hw := hw.1 c_2
    exact L28  hw H locs ls hP hD hS (lv_sub hl [] rfl)
  · have hw := hw.2 c_2
    refine lv_iload_n hx hb dX11_count_7 rfl (lv_at hl 1 rfl) ?_
    obtain ⟨h9a, hw⟩ := hw
    refine hz_if_lt (tgt := 28) hx hb dX11_count_8 (by decide) h9a (fun c_3 => ?_) (fun c_3 => ?_)
    · have hw := hw.1 c_3
      exact L28  hw H locs ls hP hD hS (lv_sub hl [] rfl)
    · have hw := hw.2 c_3
      refine lv_iload_n hx hb dX11_count_11 rfl (lv_at hl 1 rfl) ?_
      refine lv_iconst (v := hz_i 4) hx hb dX11_count_12 (by decide +kernel) ?_
      obtain ⟨h9a, hw⟩ := hw
      refine hz_icmp_ge (tgt := 28) hx hb dX11_count_13 (by decide) h9a ⟨by decide, by decide⟩ (fun c_4 => ?_) (fun c_4 => ?_)
      · have hw := hw.1 c_4
        exact L28  hw H locs ls hP hD hS (lv_sub hl [] rfl)
      · have hw := hw.2 c_4
        refine lv_aload_n hx hb dX11_count_16 rfl (lv_at hl 0 rfl) ?_
        refine cw_get (ci := 11) (v := .ref (r y0 13)) hx hb hts hin11 hown hK hP hO_1.1 hO_1.2 rfl 13 (by decide) (hts (.fieldLink RX11 83 "HiddenMoves" "game" "LHiddenMoves$Game;") (List.mem_cons_of_mem _ (List.mem_append_left _ (List.mem_append_left _ (List.mem_of_getElem? (i := 1) rfl))))) (fun _ h9 => h9) rfl dX11_count_17 ?_
        obtain ⟨hO_5, hw⟩ := hw
        refine cw_get (ci := 2) (v := .ref (r (r y0 13) 0)) hx hb hts hin2 hown hK hP hO_5.1 hO_5.2 rfl 0 (by decide) (hts (.fieldLink RX11 121 "HiddenMoves$Game" "counts" "[I") (List.mem_cons_of_mem _ (List.mem_append_left _ (List.mem_append_left _ (List.mem_of_getElem? (i := 2) rfl))))) (fun _ h9 => h9) rfl dX11_count_20 ?_
        refine lv_iload_n hx hb dX11_count_23 rfl (lv_at hl 1 rfl) ?_
        obtain ⟨hO_6, hw⟩ := hw
        obtain ⟨h9i, hw⟩ := hw
        refine cw_ild hx hb hK hP hO_6.1 hO_6.2.2 h9i hO_6.2.1 dX11_count_24 ?_
        refine lv_goto (tgt := 29) hx hb dX11_count_25 (by decide) ?_
        exact L29 (A (r (r y0 13) 0) (y1.toNat)) hw H locs ls hP hD hS (lv_sub hl [] rfl)

noncomputable def wp_c11_gcd_51 (L : List Nat) (K : Nat → cw_K) (z : Nat → Nat → Int) (r : Nat → Nat → Nat) (A : Nat → Nat → Int) (x4 : Int) (Q : Int → Prop) : Prop := Q x4
noncomputable def wp_c11_gcd_15 (L : List Nat) (K : Nat → cw_K) (z : Nat → Nat → Int) (r : Nat → Nat → Nat) (A : Nat → Nat → Int) (x4 : Int) (x6 : Int) (x8 : Int) (Q : Int → Prop) : Prop := ∀ P15 : Int → Int → Int → Prop, (∀ (x4 : Int) (x6 : Int) (x8 : Int), hz_rI x8 ∧ ((200 ≤ x8 → wp_c11_gcd_51 L K z r A x4  Q) ∧ (¬ (200 ≤ x8) → hz_rL x6 ∧ ((x6 = 0 → wp_c11_gcd_51 L K z r A x4  Q) ∧ (¬ (x6 = 0) → ¬ x6 = 0 ∧ hz_rL x4 ∧ hz_rL x6 ∧ ∀ x9_3 : Int, x9_3 = x4.tmod x6 → ∀ x8_4 : Int, x8_4 = x8 + 1 → P15 x6 x9_3 x8_4)))) → P15 x4 x6 x8) → P15 x4 x6 x8
noncomputable def wp_c11_gcd (L : List Nat) (K : Nat → cw_K) (z : Nat → Nat → Int) (r : Nat → Nat → Nat) (A : Nat → Nat → Int) (y0 : Int) (y2 : Int) (Q : Int → Prop) : Prop := hz_rL y0 ∧ -9223372036854775808 < y0 ∧ ∀ x9_5 : Int, x9_5 = (y0.natAbs : Int) → hz_rL y2 ∧ -9223372036854775808 < y2 ∧ ∀ x9_6 : Int, x9_6 = (y2.natAbs : Int) → wp_c11_gcd_15 L K z r A x9_5 x9_6 0  Q
set_option maxHeartbeats 4000000 in
set_option maxRecDepth 100000 in
theorem k_c11_gcd (l : Launch) (D : va_G) (sz : Nat) (C : Nat → ClassId) (L : List Nat) (K : Nat → cw_K) (z : Nat → Nat → Int) (r : Nat → Nat → Nat) (A : Nat → Nat → Int) (y0 : Int) (y2 : Int) (Q : Int → Prop) (hw : wp_c11_gcd L K z r A y0 y2 Q) : Met l yX11_gcd wsX11_gcd ({ frames := 1, cells := 0, slots := 0, locals := 20 } : Room) (va_Pc [.long (hz_l y0), .long (hz_l y2)] (hm_P D (cw_w C L K z r A) (cw_t C) sz)) (va_Ql (S := Int × (Nat → Nat → Int) × (Nat → Nat → Nat) × (Nat → Nat → Int)) (fun r u => r = hz_l u.1 ∧ Q u.1) (fun u t => hm_B D (va_A (cw_w C L K z r A) sz) (cw_w C L K z r A) (cw_t C) t) (va_A (cw_w C L K z r A) sz)) 0 0 (va_A (cw_w C L K z r A) sz) := by
  refine Met.ofW (cc := cX11_gcd) (maxL := 11) (ret := (some .long)) (by decide) rfl ?_
  intro p e s m args below meth c s₁ B hml hv
  obtain ⟨rfl, hsz, hP, hK, hD0, hE⟩ := hv
  have hx := B.exec
  have hb := B.bytes
  have hr := B.returns
  have hts := atoms_spec (ws := wsX11_gcd) B.pre
  have hown : s.vm.findClass RX11 = some m.cls := findClass_of_methodNamed B.named
  have hlocks := B.notSynchronized
  subst hsz
  have hD := hD0.self (sz := s.heap.size)
  generalize hAe : va_A (cw_w C L K z r A) s.heap.size = Ad at hD ⊢
  have hA : ∀ q : Nat, s.heap.size ≤ q → Ad q := fun q h => by rw [← hAe]; exact Or.inr h
  have hS : va_S Ad s.heap s.heap [] := va_S.rf
  have hl := lv_entry ([.long (hz_l y0), .long (hz_l y2)]) (n := 11) (Nat.le_of_ble_eq_true rfl)
  rw [lg_entry_eq]
  generalize (lg_sl ([.long (hz_l y0), .long (hz_l y2)]) ++ List.replicate (11 - (lg_sl ([.long (hz_l y0), .long (hz_l y2)])).length) Slot.unset).toArray = ls at hl ⊢
  have hl : lv_has ls 11 [(0, .long (hz_l y0)), (2, .long (hz_l y2))] := hl
  refine mw_Q (fun QQ hQQ => ?_)
  have hP0 := hP; have hD0 := hD; have hS0 := hS; have hl0 := hl; have hw0 := hw
  clear hP hD hS hl hw
  have L51 : ∀ (x4 : Int), wp_c11_gcd_51 L K z r A x4  Q → ∀ (H : Heap) (locs : List Loc) (ls : Array Slot), va_P D vwCl (cw_w C L K z r A) H → va_D Ad (cw_w C L K z r A) → va_S Ad s.heap H locs → lv_has ls 11 [(4, .long (hz_l x4))] → W p l e (headSpec wsX11_gcd ({ frames := 1, cells := 0, slots := 0, locals := 20 } : Room)).room s m (List.toArray [.long (hz_l y0), .long (hz_l y2)]) below meth c H locs 0 0 QQ (F0 m 51 ls []) := by
    intro x4 hw H locs ls hP hD hS hl
    refine lv_lload hx hb dX11_gcd_51 (lv_at hl 0 rfl) ?_
    subst hQQ
    subst hAe
    exact W.lret (v := hz_l x4) hx hb hr (fun t ht hW => ⟨⟨hz_l x4, (x4, z, r, A), rfl, ⟨rfl, hw⟩, by rw [ht]; exact hP, va_K.moved hW.alike hK, hD⟩, hS.F ht⟩) hS.2.2 dX11_gcd_53
  have L15 : ∀ (x4 : Int) (x6 : Int) (x8 : Int), wp_c11_gcd_15 L K z r A x4 x6 x8  Q → ∀ (H : Heap) (locs : List Loc) (ls : Array Slot), va_P D vwCl (cw_w C L K z r A) H → va_D Ad (cw_w C L K z r A) → va_S Ad s.heap H locs → lv_has ls 11 [(4, .long (hz_l x4)), (6, .long (hz_l x6)), (8, .int (hz_i x8))] → W p l e (headSpec wsX11_gcd ({ frames := 1, cells := 0, slots := 0, locals := 20 } : Room)).room s m (List.toArray [.long (hz_l y0), .long (hz_l y2)]) below meth c H locs 0 0 QQ (F0 m 15 ls []) := by
    intro x4 x6 x8 hw
    obtain ⟨P15, hP15⟩ : ∃ P : Int → Int → Int → Prop, ∀ (x4 : Int) (x6 : Int) (x8 : Int), P x4 x6 x8 ↔ (∀ (H : Heap) (locs : List Loc) (ls : Array Slot), va_P D vwCl (cw_w C L K z r A) H → va_D Ad (cw_w C L K z r A) → va_S Ad s.heap H locs → lv_has ls 11 [(4, .long (hz_l x4)), (6, .long (hz_l x6)), (8, .int (hz_i x8))] → W p l e (headSpec wsX11_gcd ({ frames := 1, cells := 0, slots := 0, locals := 20 } : Room)).room s m (List.toArray [.long (hz_l y0), .long (hz_l y2)]) below meth c H locs 0 0 QQ (F0 m 15 ls [])) := ⟨fun (x4 : Int) (x6 : Int) (x8 : Int) => ∀ (H : Heap) (locs : List Loc) (ls : Array Slot), va_P D vwCl (cw_w C L K z r A) H → va_D Ad (cw_w C L K z r A) → va_S Ad s.heap H locs → lv_has ls 11 [(4, .long (hz_l x4)), (6, .long (hz_l x6)), (8, .int (hz_i x8))] → W p l e (headSpec wsX11_gcd ({ frames := 1, cells := 0, slots := 0, locals := 20 } : Room)).room s m (List.toArray [.long (hz_l y0), .long (hz_l y2)]) below meth c H locs 0 0 QQ (F0 m 15 ls []), fun _ _ _ => Iff.rfl⟩
    refine (hP15 x4 x6 x8).mp (hw P15 ?_)
    intro x4 x6 x8 hw
    refine (hP15 x4 x6 x8).mpr ?_
    intro H locs ls hP hD hS hl
    refine lv_iload hx hb dX11_gcd_15 (lv_at hl 2 rfl) ?_
    refine lv_sipush (v := hz_i 200) hx hb dX11_gcd_17 (by decide +kernel) ?_
    obtain ⟨h9a, hw⟩ := hw
    refine hz_icmp_ge (tgt := 51) hx hb dX11_gcd_20 (by decide) h9a ⟨by decide, by decide⟩ (fun c_1 => ?_) (fun c_1 => ?_)
    · have hw := hw.1 c_1
      exact L51 x4 hw H locs ls hP hD hS (lv_sub hl [0] rfl)
    · have hw := hw.2 c_1
      refine lv_lload hx hb dX11_gcd_23 (lv_at hl 1 rfl) ?_
      refine lv_lconst (v := hz_l 0) hx hb dX11_gcd_25 (by decide +kernel) ?_
      obtain ⟨h9a, hw⟩ := hw
      refine hz_lcmp_eq (tgt := 51) hx hb dX11_gcd_26 dX11_gcd_27 (by decide) h9a ⟨by decide, by decide⟩ (fun c_2 => ?_) (fun c_2 => ?_)
      · have hw := hw.1 c_2
        exact L51 x4 hw H locs ls hP hD hS (lv_sub hl [0] rfl)
      · have hw := hw.2 c_2
        refine lv_lload hx hb dX11_gcd_30 (lv_at hl 0 rfl) ?_
        refine lv_lload hx hb dX11_gcd_32 (lv_at hl 1 rfl) ?_
        obtain ⟨h9n, h9a, h9b, hw⟩ := hw
        refine hz_lrem hx hb dX11_gcd_34 h9n h9a h9b ?_
        refine hz_topl (fun x9_3 hx9_3 => ?_)
        have hw := hw x9_3 hx9_3
        refine lv_lstore (lv' := [(9, .long (hz_l x9_3)), (4, .long (hz_l x4)), (6, .long (hz_l x6)), (8, .int (hz_i x8))]) hx hb dX11_gcd_35 hl (by decide) rfl (fun ls hl => ?_)
        refine lv_lload hx hb dX11_gcd_37 (lv_at hl 2 rfl) ?_
        refine lv_lstore (lv' := [(4, .long (hz_l x6)), (9, .long (hz_l x9_3)), (6, .long (hz_l x6)), (8, .int (hz_i x8))]) hx hb dX11_gcd_39 hl (by decide) rfl (fun ls hl => ?_)
        refine lv_lload hx hb dX11_gcd_41 (lv_at hl 1 rfl) ?_
        refine lv_lstore (lv' := [(6, .long (hz_l x9_3)), (4, .long (hz_l x6)), (9, .long (hz_l x9_3)), (8, .int (hz_i x8))]) hx hb dX11_gcd_43 hl (by decide) rfl (fun ls hl => ?_)
        obtain ⟨x8_4, hx8_4⟩ : ∃ y : Int, y = x8 + 1 := ⟨_, rfl⟩
        have hw := hw x8_4 hx8_4
        refine lv_iinc (v := hz_i x8_4) (lv' := [(8, .int (hz_i x8_4)), (6, .long (hz_l x9_3)), (4, .long (hz_l x6)), (9, .long (hz_l x9_3))]) hx hb dX11_gcd_45 hl (k := 3) rfl (by rw [hx8_4]; exact hz_i_add _ _) (by decide) rfl (fun ls hl => ?_)
        refine lv_goto (tgt := 15) hx hb dX11_gcd_48 (by decide) ?_
        exact (hP15 x6 x9_3 x8_4).mp hw H locs ls hP hD hS (lv_sub hl [2, 1, 0] rfl)
  have hP := hP0; have hD := hD0; have hS := hS0; have hl := hl0; have hw := hw0
  obtain ⟨H, hH⟩ : ∃ H : Heap, H = s.heap := ⟨_, rfl⟩
  obtain ⟨locs, hlocs⟩ : ∃ L : List Loc, L = [] := ⟨_, rfl⟩
  rw [← hH] at hP
  have hS : va_S Ad s.heap H locs := by rw [hH, hlocs]; exact hS
  refine mw_HL hH hlocs ?_
  refine lv_lload_n hx hb dX11_gcd_0 rfl (lv_at hl 0 rfl) ?_
  obtain ⟨h9a, hw⟩ := hw
  obtain ⟨h9m, hw⟩ := hw
  refine cw_mabs_long (x := y0) (y := y0) hx hb (by rw [hml]; exact hl.1.symm) hown (hts (.methodLink RX11 270 Lib.MathLoose.abs_long.x) (List.mem_cons_of_mem _ (List.mem_of_getElem? (i := 0) rfl))) (hts (.static Lib.MathLoose.abs_long.x) (List.mem_cons_of_mem _ (List.mem_of_getElem? (i := 1) rfl))) (hts (.initialized "java/lang/Math") (List.mem_cons_of_mem _ (List.mem_of_getElem? (i := 2) rfl))) (hts (.code Lib.MathLoose.abs_long.x Lib.MathLoose.abs_long.code 2 (some .long)) (List.mem_cons_of_mem _ (List.mem_of_getElem? (i := 3) rfl))) (Nat.le_of_ble_eq_true rfl) (Nat.le_of_ble_eq_true rfl) (Nat.zero_le _) (Nat.zero_le _) dX11_gcd_1 h9a h9m (fun x9_5 hx9_5 => ?_)
  have hw := hw x9_5 hx9_5
  refine lv_lstore (lv' := [(4, .long (hz_l x9_5)), (0, .long (hz_l y0)), (2, .long (hz_l y2))]) hx hb dX11_gcd_4 hl (by decide) rfl (fun ls hl => ?_)
  refine lv_lload_n hx hb dX11_gcd_6 rfl (lv_at hl 2 rfl) ?_
  obtain ⟨h9a, hw⟩ := hw
  obtain ⟨h9m, hw⟩ := hw
  refine cw_mabs_long (x := y2) (y := y2) hx hb (by rw [hml]; exact hl.1.symm) hown (hts (.methodLink RX11 270 Lib.MathLoose.abs_long.x) (List.mem_cons_of_mem _ (List.mem_of_getElem? (i := 0) rfl))) (hts (.static Lib.MathLoose.abs_long.x) (List.mem_cons_of_mem _ (List.mem_of_getElem? (i := 1) rfl))) (hts (.initialized "java/lang/Math") (List.mem_cons_of_mem _ (List.mem_of_getElem? (i := 2) rfl))) (hts (.code Lib.MathLoose.abs_long.x Lib.MathLoose.abs_long.code 2 (some .long)) (List.mem_cons_of_mem _ (List.mem_of_getElem? (i := 3) rfl))) (Nat.le_of_ble_eq_true rfl) (Nat.le_of_ble_eq_true rfl) (Nat.zero_le _) (Nat.zero_le _) dX11_gcd_7 h9a h9m (fun x9_6 hx9_6 => ?_)
  have hw := hw x9_6 hx9_6
  refine lv_lstore (lv' := [(6, .long (hz_l x9_6)), (4, .long (hz_l x9_5)), (0, .long (hz_l y0)), (2, .long (hz_l y2))]) hx hb dX11_gcd_10 hl (by decide) rfl (fun ls hl => ?_)
  refine lv_iconst (v := hz_i 0) hx hb dX11_gcd_12 (by decide +kernel) ?_
  refine lv_istore (lv' := [(8, .int (hz_i 0)), (6, .long (hz_l x9_6)), (4, .long (hz_l x9_5)), (0, .long (hz_l y0)), (2, .long (hz_l y2))]) hx hb dX11_gcd_13 hl (by decide) rfl (fun ls hl => ?_)
  exact L15 x9_5 x9_6 0 hw H locs ls hP hD hS (lv_sub hl [2, 1, 0] rfl)

noncomputable def wp_c11_quotient_13 (L : List Nat) (K : Nat → cw_K) (z : Nat → Nat → Int) (r : Nat → Nat → Nat) (A : Nat → Nat → Int) (t0 : Int) (Q : Int → Prop) : Prop := Q t0
noncomputable def wp_c11_quotient (L : List Nat) (K : Nat → cw_K) (z : Nat → Nat → Int) (r : Nat → Nat → Nat) (A : Nat → Nat → Int) (y0 : Int) (y2 : Int) (Q : Int → Prop) : Prop := hz_rL y2 ∧ ((¬ y2 = 0 → ¬ y2 = 0 ∧ hz_rL y0 ∧ hz_rL y2 ∧ wp_c11_quotient_13 L K z r A (y0.tdiv y2)  Q) ∧ (y2 = 0 → wp_c11_quotient_13 L K z r A 0  Q))
set_option maxHeartbeats 4000000 in
set_option maxRecDepth 100000 in
theorem k_c11_quotient (l : Launch) (D : va_G) (sz : Nat) (C : Nat → ClassId) (L : List Nat) (K : Nat → cw_K) (z : Nat → Nat → Int) (r : Nat → Nat → Nat) (A : Nat → Nat → Int) (y0 : Int) (y2 : Int) (Q : Int → Prop) (hw : wp_c11_quotient L K z r A y0 y2 Q) : Met l yX11_quotient wsX11_quotient ({ frames := 0, cells := 0, slots := 0, locals := 0 } : Room) (va_Pc [.long (hz_l y0), .long (hz_l y2)] (hm_P D (cw_w C L K z r A) (cw_t C) sz)) (va_Ql (S := Int × (Nat → Nat → Int) × (Nat → Nat → Nat) × (Nat → Nat → Int)) (fun r u => r = hz_l u.1 ∧ Q u.1) (fun u t => hm_B D (va_A (cw_w C L K z r A) sz) (cw_w C L K z r A) (cw_t C) t) (va_A (cw_w C L K z r A) sz)) 0 0 (va_A (cw_w C L K z r A) sz) := by
  refine Met.ofW (cc := cX11_quotient) (maxL := 4) (ret := (some .long)) (by decide) rfl ?_
  intro p e s m args below meth c s₁ B hml hv
  obtain ⟨rfl, hsz, hP, hK, hD0, hE⟩ := hv
  have hx := B.exec
  have hb := B.bytes
  have hr := B.returns
  have hts := atoms_spec (ws := wsX11_quotient) B.pre
  have hown : s.vm.findClass RX11 = some m.cls := findClass_of_methodNamed B.named
  have hlocks := B.notSynchronized
  subst hsz
  have hD := hD0.self (sz := s.heap.size)
  generalize hAe : va_A (cw_w C L K z r A) s.heap.size = Ad at hD ⊢
  have hA : ∀ q : Nat, s.heap.size ≤ q → Ad q := fun q h => by rw [← hAe]; exact Or.inr h
  have hS : va_S Ad s.heap s.heap [] := va_S.rf
  have hl := lv_entry ([.long (hz_l y0), .long (hz_l y2)]) (n := 4) (Nat.le_of_ble_eq_true rfl)
  rw [lg_entry_eq]
  generalize (lg_sl ([.long (hz_l y0), .long (hz_l y2)]) ++ List.replicate (4 - (lg_sl ([.long (hz_l y0), .long (hz_l y2)])).length) Slot.unset).toArray = ls at hl ⊢
  have hl : lv_has ls 4 [(0, .long (hz_l y0)), (2, .long (hz_l y2))] := hl
  refine mw_Q (fun QQ hQQ => ?_)
  have hP0 := hP; have hD0 := hD; have hS0 := hS; have hl0 := hl; have hw0 := hw
  clear hP hD hS hl hw
  have L13 : ∀ (t0 : Int), wp_c11_quotient_13 L K z r A t0  Q → ∀ (H : Heap) (locs : List Loc) (ls : Array Slot), va_P D vwCl (cw_w C L K z r A) H → va_D Ad (cw_w C L K z r A) → va_S Ad s.heap H locs → lv_has ls 4 [] → W p l e (headSpec wsX11_quotient ({ frames := 0, cells := 0, slots := 0, locals := 0 } : Room)).room s m (List.toArray [.long (hz_l y0), .long (hz_l y2)]) below meth c H locs 0 0 QQ (F0 m 13 ls [.long (hz_l t0)]) := by
    intro t0 hw H locs ls hP hD hS hl
    subst hQQ
    subst hAe
    exact W.lret (v := hz_l t0) hx hb hr (fun t ht hW => ⟨⟨hz_l t0, (t0, z, r, A), rfl, ⟨rfl, hw⟩, by rw [ht]; exact hP, va_K.moved hW.alike hK, hD⟩, hS.F ht⟩) hS.2.2 dX11_quotient_13
  have hP := hP0; have hD := hD0; have hS := hS0; have hl := hl0; have hw := hw0
  obtain ⟨H, hH⟩ : ∃ H : Heap, H = s.heap := ⟨_, rfl⟩
  obtain ⟨locs, hlocs⟩ : ∃ L : List Loc, L = [] := ⟨_, rfl⟩
  rw [← hH] at hP
  have hS : va_S Ad s.heap H locs := by rw [hH, hlocs]; exact hS
  refine mw_HL hH hlocs ?_
  refine lv_lload_n hx hb dX11_quotient_0 rfl (lv_at hl 1 rfl) ?_
  refine lv_lconst (v := hz_l 0) hx hb dX11_quotient_1 (by decide +kernel) ?_
  obtain ⟨h9a, hw⟩ := hw
  refine hz_lcmp_ne (tgt := 10) hx hb dX11_quotient_2 dX11_quotient_3 (by decide) h9a ⟨by decide, by decide⟩ (fun c_1 => ?_) (fun c_1 => ?_)
  · have hw := hw.1 c_1
    refine lv_lload_n hx hb dX11_quotient_10 rfl (lv_at hl 0 rfl) ?_
    refine lv_lload_n hx hb dX11_quotient_11 rfl (lv_at hl 1 rfl) ?_
    obtain ⟨h9n, h9a, h9b, hw⟩ := hw
    refine hz_ldiv hx hb dX11_quotient_12 h9n h9a h9b ?_
    exact L13 (y0.tdiv y2) hw H locs ls hP hD hS (lv_sub hl [] rfl)
  · have hw := hw.2 c_1
    refine lv_lconst (v := hz_l 0) hx hb dX11_quotient_6 (by decide +kernel) ?_
    refine lv_goto (tgt := 13) hx hb dX11_quotient_7 (by decide) ?_
    exact L13 0 hw H locs ls hP hD hS (lv_sub hl [] rfl)

noncomputable def wp_c11_lcm (L : List Nat) (K : Nat → cw_K) (z : Nat → Nat → Int) (r : Nat → Nat → Nat) (A : Nat → Nat → Int) (y0 : Int) (y2 : Int) (Q : Int → Prop) : Prop := wp_c11_gcd L K z r A y0 y2 (fun rv_1 => wp_c11_quotient L K z r A y0 rv_1 (fun rv_2 => ∀ x9_3 : Int, hz_rL x9_3 → x9_3 % 18446744073709551616 = (rv_2 * y2) % 18446744073709551616 → Q x9_3))
set_option maxHeartbeats 4000000 in
set_option maxRecDepth 100000 in
theorem k_c11_lcm (l : Launch) (D : va_G) (sz : Nat) (C : Nat → ClassId) (L : List Nat) (K : Nat → cw_K) (z : Nat → Nat → Int) (r : Nat → Nat → Nat) (A : Nat → Nat → Int) (y0 : Int) (y2 : Int) (Q : Int → Prop) (hw : wp_c11_lcm L K z r A y0 y2 Q) : Met l yX11_lcm wsX11_lcm ({ frames := 2, cells := 0, slots := 0, locals := 50 } : Room) (va_Pc [.long (hz_l y0), .long (hz_l y2)] (hm_P D (cw_w C L K z r A) (cw_t C) sz)) (va_Ql (S := Int × (Nat → Nat → Int) × (Nat → Nat → Nat) × (Nat → Nat → Int)) (fun r u => r = hz_l u.1 ∧ Q u.1) (fun u t => hm_B D (va_A (cw_w C L K z r A) sz) (cw_w C L K z r A) (cw_t C) t) (va_A (cw_w C L K z r A) sz)) 0 0 (va_A (cw_w C L K z r A) sz) := by
  refine Met.ofW (cc := cX11_lcm) (maxL := 4) (ret := (some .long)) (by decide) rfl ?_
  intro p e s m args below meth c s₁ B hml hv
  obtain ⟨rfl, hsz, hP, hK, hD0, hE⟩ := hv
  have hx := B.exec
  have hb := B.bytes
  have hr := B.returns
  have hts := atoms_spec (ws := wsX11_lcm) B.pre
  have hown : s.vm.findClass RX11 = some m.cls := findClass_of_methodNamed B.named
  have hlocks := B.notSynchronized
  subst hsz
  have hD := hD0.self (sz := s.heap.size)
  generalize hAe : va_A (cw_w C L K z r A) s.heap.size = Ad at hD ⊢
  have hA : ∀ q : Nat, s.heap.size ≤ q → Ad q := fun q h => by rw [← hAe]; exact Or.inr h
  have hS : va_S Ad s.heap s.heap [] := va_S.rf
  have hl := lv_entry ([.long (hz_l y0), .long (hz_l y2)]) (n := 4) (Nat.le_of_ble_eq_true rfl)
  rw [lg_entry_eq]
  generalize (lg_sl ([.long (hz_l y0), .long (hz_l y2)]) ++ List.replicate (4 - (lg_sl ([.long (hz_l y0), .long (hz_l y2)])).length) Slot.unset).toArray = ls at hl ⊢
  have hl : lv_has ls 4 [(0, .long (hz_l y0)), (2, .long (hz_l y2))] := hl
  refine mw_Q (fun QQ hQQ => ?_)
  have hP0 := hP; have hD0 := hD; have hS0 := hS; have hl0 := hl; have hw0 := hw
  clear hP hD hS hl hw
  have hP := hP0; have hD := hD0; have hS := hS0; have hl := hl0; have hw := hw0
  obtain ⟨H, hH⟩ : ∃ H : Heap, H = s.heap := ⟨_, rfl⟩
  obtain ⟨locs, hlocs⟩ : ∃ L : List Loc, L = [] := ⟨_, rfl⟩
  rw [← hH] at hP
  have hS : va_S Ad s.heap H locs := by rw [hH, hlocs]; exact hS
  refine mw_HL hH hlocs ?_
  refine lv_lload_n hx hb dX11_lcm_0 rfl (lv_at hl 0 rfl) ?_
  refine lv_lload_n hx hb dX11_lcm_1 rfl (lv_at hl 0 rfl) ?_
  refine lv_lload_n hx hb dX11_lcm_2 rfl (lv_at hl 1 rfl) ?_
  have hFc := cw_free hD hS hA
  refine va_calll (va_runS (As := [.long (hz_l y0), .long (hz_l y2)]) (rest := [.long (hz_l y0)]) ⟨hx, hb, hml, hown, hts⟩ (k_c11_gcd l D _ C L K z r A y0 y2 _ hw) (va_cwS 2 hts gX11_lcm_X11_gcd rfl rfl rfl (by decide +kernel) ⟨Nat.le_of_ble_eq_true rfl, Nat.le_of_ble_eq_true rfl⟩) ⟨hm_blind, hm_pre hP hK hD hE⟩ rfl rfl hl.1 rfl (lv_room (Nat.le_of_ble_eq_true rfl)) dX11_lcm_3 ⟨Nat.le_of_ble_eq_true rfl, Nat.le_of_ble_eq_true rfl⟩) hS (fun q _ h => hFc q h) hFc (fun rv u t H1 locs ht hvm hw hB hz1 hk1 hS => ?_)
  obtain ⟨rv_1, _, _, _⟩ := u
  obtain ⟨hP, hK1, hD1⟩ := hB
  rw [ht] at hP
  obtain ⟨hrv, hw⟩ := hw
  subst hrv
  have hD := hD1.weaken (fun k q _ h => hFc q.1 h)
  have hP : va_P D vwCl (cw_w C L K z r A) H1 := hP
  have hD : va_D Ad (cw_w C L K z r A) := hD
  generalize H1 = H at hP hS ⊢
  refine W.eq (g2 := F0 m 6 ls [.long (hz_l rv_1), .long (hz_l y0)]) rfl ?_
  have hFc := cw_free hD hS hA
  refine va_calll (va_runS (As := [.long (hz_l y0), .long (hz_l rv_1)]) (rest := []) ⟨hx, hb, hml, hown, hts⟩ (k_c11_quotient l D _ C L K z r A y0 rv_1 _ hw) (va_cwS 2 hts gX11_lcm_X11_quotient rfl rfl rfl (by decide +kernel) ⟨Nat.le_of_ble_eq_true rfl, Nat.le_of_ble_eq_true rfl⟩) ⟨hm_blind, hm_pre hP hK hD hE⟩ rfl rfl hl.1 rfl (lv_room (Nat.le_of_ble_eq_true rfl)) dX11_lcm_6 ⟨Nat.le_of_ble_eq_true rfl, Nat.le_of_ble_eq_true rfl⟩) hS (fun q _ h => hFc q h) hFc (fun rv u t H1 locs ht hvm hw hB hz1 hk1 hS => ?_)
  obtain ⟨rv_2, _, _, _⟩ := u
  obtain ⟨hP, hK1, hD1⟩ := hB
  rw [ht] at hP
  obtain ⟨hrv, hw⟩ := hw
  subst hrv
  have hD := hD1.weaken (fun k q _ h => hFc q.1 h)
  have hP : va_P D vwCl (cw_w C L K z r A) H1 := hP
  have hD : va_D Ad (cw_w C L K z r A) := hD
  generalize H1 = H at hP hS ⊢
  refine W.eq (g2 := F0 m 9 ls [.long (hz_l rv_2)]) rfl ?_
  refine lv_lload_n hx hb dX11_lcm_9 rfl (lv_at hl 1 rfl) ?_
  refine hz_lmul hx hb dX11_lcm_10 ?_
  refine cw_nrl (fun x9_3 hx9_3a hx9_3b => ?_)
  have hw := hw x9_3 hx9_3a hx9_3b
  subst hQQ
  subst hAe
  exact W.lret (v := hz_l x9_3) hx hb hr (fun t ht hW => ⟨⟨hz_l x9_3, (x9_3, z, r, A), rfl, ⟨rfl, hw⟩, by rw [ht]; exact hP, va_K.moved hW.alike hK, hD⟩, hS.F ht⟩) hS.2.2 dX11_lcm_11

noncomputable def wp_c9_bottomOf_5 (L : List Nat) (K : Nat → cw_K) (z : Nat → Nat → Int) (r : Nat → Nat → Nat) (A : Nat → Nat → Int) (y0 : Nat) (y1 : Nat) (y2 : Int) (x3 : Int) (x5 : Int) (Q : Int → Prop) : Prop := ∀ P5 : Int → Int → Prop, (∀ (x3 : Int) (x5 : Int), cw_O L K 7 y1 ∧ cw_A L K 0 (r y1 2) ∧ ((0 : Int) ≤ y2 ∧ y2 < (cw_n K (r y1 2) : Int)) ∧ hz_rI x5 ∧ hz_rI (A (r y1 2) (y2.toNat)) ∧ ((A (r y1 2) (y2.toNat) ≤ x5 → Q x3) ∧ (¬ (A (r y1 2) (y2.toNat) ≤ x5) → cw_O L K 9 y0 ∧ cw_A L K 0 (r y0 1) ∧ ((0 : Int) ≤ (y2 * 4) + x5 ∧ (y2 * 4) + x5 < (cw_n K (r y0 1) : Int)) ∧ hz_rI (A (r y0 1) (((y2 * 4) + x5).toNat)) ∧ wp_c11_lcm L K z r A x3 (A (r y0 1) (((y2 * 4) + x5).toNat)) (fun rv_6 => ∀ x5_7 : Int, x5_7 = x5 + 1 → P5 rv_6 x5_7))) → P5 x3 x5) → P5 x3 x5
noncomputable def wp_c9_bottomOf (L : List Nat) (K : Nat → cw_K) (z : Nat → Nat → Int) (r : Nat → Nat → Nat) (A : Nat → Nat → Int) (y0 : Nat) (y1 : Nat) (y2 : Int) (Q : Int → Prop) : Prop := wp_c9_bottomOf_5 L K z r A y0 y1 y2 1 0  Q
set_option maxHeartbeats 4000000 in
set_option maxRecDepth 100000 in
theorem k_c9_bottomOf (l : Launch) (D : va_G) (sz : Nat) (C : Nat → ClassId) (L : List Nat) (K : Nat → cw_K) (z : Nat → Nat → Int) (r : Nat → Nat → Nat) (A : Nat → Nat → Int) (y0 : Nat) (y1 : Nat) (y2 : Int) (Q : Int → Prop) (hw : wp_c9_bottomOf L K z r A y0 y1 y2 Q) : Met l yX9_bottomOf wsX9_bottomOf ({ frames := 3, cells := 0, slots := 0, locals := 73 } : Room) (va_Pc [.ref y0, .ref y1, .int (hz_i y2)] (hm_P D (cw_w C L K z r A) (cw_t C) sz)) (va_Ql (S := Int × (Nat → Nat → Int) × (Nat → Nat → Nat) × (Nat → Nat → Int)) (fun r u => r = hz_l u.1 ∧ Q u.1) (fun u t => hm_B D (va_A (cw_w C L K z r A) sz) (cw_w C L K z r A) (cw_t C) t) (va_A (cw_w C L K z r A) sz)) 0 0 (va_A (cw_w C L K z r A) sz) := by
  refine Met.ofW (cc := cX9_bottomOf) (maxL := 6) (ret := (some .long)) (by decide) rfl ?_
  intro p e s m args below meth c s₁ B hml hv
  obtain ⟨rfl, hsz, hP, hK, hD0, hE⟩ := hv
  have hx := B.exec
  have hb := B.bytes
  have hr := B.returns
  have hts := atoms_spec (ws := wsX9_bottomOf) B.pre
  have hown : s.vm.findClass RX9 = some m.cls := findClass_of_methodNamed B.named
  have hlocks := B.notSynchronized
  have hin7 : ∀ w ∈ u_ws RX7 TX7 8, w ∈ wsX9_bottomOf := fun w h => List.mem_cons_of_mem _ (List.mem_append_left _ (List.mem_append_right _ (h)))
  have hin9 : ∀ w ∈ u_ws RX9 TX9 3, w ∈ wsX9_bottomOf := fun w h => List.mem_cons_of_mem _ (List.mem_append_right _ (h))
  subst hsz
  have hD := hD0.self (sz := s.heap.size)
  generalize hAe : va_A (cw_w C L K z r A) s.heap.size = Ad at hD ⊢
  have hA : ∀ q : Nat, s.heap.size ≤ q → Ad q := fun q h => by rw [← hAe]; exact Or.inr h
  have hS : va_S Ad s.heap s.heap [] := va_S.rf
  have hl := lv_entry ([.ref y0, .ref y1, .int (hz_i y2)]) (n := 6) (Nat.le_of_ble_eq_true rfl)
  rw [lg_entry_eq]
  generalize (lg_sl ([.ref y0, .ref y1, .int (hz_i y2)]) ++ List.replicate (6 - (lg_sl ([.ref y0, .ref y1, .int (hz_i y2)])).length) Slot.unset).toArray = ls at hl ⊢
  have hl : lv_has ls 6 [(0, .ref y0), (1, .ref y1), (2, .int (hz_i y2))] := hl
  refine mw_Q (fun QQ hQQ => ?_)
  have hP0 := hP; have hD0 := hD; have hS0 := hS; have hl0 := hl; have hw0 := hw
  clear hP hD hS hl hw
  have L5 : ∀ (x3 : Int) (x5 : Int), wp_c9_bottomOf_5 L K z r A y0 y1 y2 x3 x5  Q → ∀ (H : Heap) (locs : List Loc) (ls : Array Slot), va_P D vwCl (cw_w C L K z r A) H → va_D Ad (cw_w C L K z r A) → va_S Ad s.heap H locs → lv_has ls 6 [(0, .ref y0), (1, .ref y1), (2, .int (hz_i y2)), (3, .long (hz_l x3)), (5, .int (hz_i x5))] → W p l e (headSpec wsX9_bottomOf ({ frames := 3, cells := 0, slots := 0, locals := 73 } : Room)).room s m (List.toArray [.ref y0, .ref y1, .int (hz_i y2)]) below meth c H locs 0 0 QQ (F0 m 5 ls []) := by
    intro x3 x5 hw
    obtain ⟨P5, hP5⟩ : ∃ P : Int → Int → Prop, ∀ (x3 : Int) (x5 : Int), P x3 x5 ↔ (∀ (H : Heap) (locs : List Loc) (ls : Array Slot), va_P D vwCl (cw_w C L K z r A) H → va_D Ad (cw_w C L K z r A) → va_S Ad s.heap H locs → lv_has ls 6 [(0, .ref y0), (1, .ref y1), (2, .int (hz_i y2)), (3, .long (hz_l x3)), (5, .int (hz_i x5))] → W p l e (headSpec wsX9_bottomOf ({ frames := 3, cells := 0, slots := 0, locals := 73 } : Room)).room s m (List.toArray [.ref y0, .ref y1, .int (hz_i y2)]) below meth c H locs 0 0 QQ (F0 m 5 ls [])) := ⟨fun (x3 : Int) (x5 : Int) => ∀ (H : Heap) (locs : List Loc) (ls : Array Slot), va_P D vwCl (cw_w C L K z r A) H → va_D Ad (cw_w C L K z r A) → va_S Ad s.heap H locs → lv_has ls 6 [(0, .ref y0), (1, .ref y1), (2, .int (hz_i y2)), (3, .long (hz_l x3)), (5, .int (hz_i x5))] → W p l e (headSpec wsX9_bottomOf ({ frames := 3, cells := 0, slots := 0, locals := 73 } : Room)).room s m (List.toArray [.ref y0, .ref y1, .int (hz_i y2)]) below meth c H locs 0 0 QQ (F0 m 5 ls []), fun _ _ => Iff.rfl⟩
    refine (hP5 x3 x5).mp (hw P5 ?_)
    intro x3 x5 hw
    refine (hP5 x3 x5).mpr ?_
    intro H locs ls hP hD hS hl
    refine lv_iload hx hb dX9_bottomOf_5 (lv_at hl 4 rfl) ?_
    refine lv_aload_n hx hb dX9_bottomOf_7 rfl (lv_at hl 1 rfl) ?_
    obtain ⟨hO_1, hw⟩ := hw
    refine cw_get (ci := 7) (v := .ref (r y1 2)) hx hb hts hin7 hown hK hP hO_1.1 hO_1.2 rfl 2 (by decide) (hts (.fieldLink RX9 38 "HiddenMoves$Side" "moves" "[I") (List.mem_cons_of_mem _ (List.mem_append_left _ (List.mem_append_left _ (List.mem_of_getElem? (i := 0) rfl))))) (fun _ h9 => h9) rfl dX9_bottomOf_8 ?_
    refine lv_iload_n hx hb dX9_bottomOf_11 rfl (lv_at hl 2 rfl) ?_
    obtain ⟨hO_2, hw⟩ := hw
    obtain ⟨h9i, hw⟩ := hw
    refine cw_ild hx hb hK hP hO_2.1 hO_2.2.2 h9i hO_2.2.1 dX9_bottomOf_12 ?_
    obtain ⟨h9a, hw⟩ := hw
    obtain ⟨h9b, hw⟩ := hw
    refine hz_icmp_ge (tgt := 39) hx hb dX9_bottomOf_13 (by decide) h9a h9b (fun c_3 => ?_) (fun c_3 => ?_)
    · have hw := hw.1 c_3
      refine lv_lload_n hx hb dX9_bottomOf_39 rfl (lv_at hl 3 rfl) ?_
      subst hQQ
      subst hAe
      exact W.lret (v := hz_l x3) hx hb hr (fun t ht hW => ⟨⟨hz_l x3, (x3, z, r, A), rfl, ⟨rfl, hw⟩, by rw [ht]; exact hP, va_K.moved hW.alike hK, hD⟩, hS.F ht⟩) hS.2.2 dX9_bottomOf_40
    · have hw := hw.2 c_3
      refine lv_lload_n hx hb dX9_bottomOf_16 rfl (lv_at hl 3 rfl) ?_
      refine lv_aload_n hx hb dX9_bottomOf_17 rfl (lv_at hl 0 rfl) ?_
      obtain ⟨hO_4, hw⟩ := hw
      refine cw_get (ci := 9) (v := .ref (r y0 1)) hx hb hts hin9 hown hK hP hO_4.1 hO_4.2 rfl 1 (by decide) (hts (.fieldLink RX9 15 "HiddenMoves$Way" "bottoms" "[I") (List.mem_cons_of_mem _ (List.mem_append_left _ (List.mem_append_left _ (List.mem_of_getElem? (i := 1) rfl))))) (fun _ h9 => h9) rfl dX9_bottomOf_18 ?_
      refine lv_iload_n hx hb dX9_bottomOf_21 rfl (lv_at hl 2 rfl) ?_
      refine lv_iconst (v := hz_i 4) hx hb dX9_bottomOf_22 (by decide +kernel) ?_
      refine hz_imul hx hb dX9_bottomOf_23 ?_
      refine lv_iload hx hb dX9_bottomOf_24 (lv_at hl 4 rfl) ?_
      refine hz_iadd hx hb dX9_bottomOf_26 ?_
      obtain ⟨hO_5, hw⟩ := hw
      obtain ⟨h9i, hw⟩ := hw
      refine cw_ild hx hb hK hP hO_5.1 hO_5.2.2 h9i hO_5.2.1 dX9_bottomOf_27 ?_
      obtain ⟨h9a, hw⟩ := hw
      refine hz_wi2l hx hb dX9_bottomOf_28 h9a ?_
      have hFc := cw_free hD hS hA
      refine va_calll (va_runSN (As := [.long (hz_l x3), .long (hz_l (A (r y0 1) (((y2 * 4) + x5).toNat)))]) (rest := []) ⟨hx, hb, hml, hown, hts⟩ (k_c11_lcm l D _ C L K z r A x3 (A (r y0 1) (((y2 * 4) + x5).toNat)) _ hw) ⟨va_cnB 2 hts gX9_bottomOf_X11_lcm_n45 rfl rfl rfl (hE.nest_RX9_45) (hts (.initialized RX11) (List.mem_cons_of_mem _ (List.mem_append_left _ (List.mem_append_left _ (List.mem_of_getElem? (i := 3) rfl))))) (by decide +kernel) ⟨Nat.le_of_ble_eq_true rfl, Nat.le_of_ble_eq_true rfl⟩, hts (.static yX11_lcm) (List.mem_cons_of_mem _ (List.mem_append_left _ (List.mem_append_left _ (List.mem_of_getElem? (i := 2) rfl)))), trivial⟩ ⟨hm_blind, hm_pre hP hK hD hE⟩ rfl rfl hl.1 rfl (lv_room (Nat.le_of_ble_eq_true rfl)) dX9_bottomOf_29 ⟨Nat.le_of_ble_eq_true rfl, Nat.le_of_ble_eq_true rfl⟩) hS (fun q _ h => hFc q h) hFc (fun rv u t H1 locs ht hvm hw hB hz1 hk1 hS => ?_)
      obtain ⟨rv_6, _, _, _⟩ := u
      obtain ⟨hP, hK1, hD1⟩ := hB
      rw [ht] at hP
      obtain ⟨hrv, hw⟩ := hw
      subst hrv
      have hD := hD1.weaken (fun k q _ h => hFc q.1 h)
      have hP : va_P D vwCl (cw_w C L K z r A) H1 := hP
      have hD : va_D Ad (cw_w C L K z r A) := hD
      generalize H1 = H at hP hS ⊢
      refine W.eq (g2 := F0 m 32 ls [.long (hz_l rv_6)]) rfl ?_
      refine lv_lstore_n (lv' := [(3, .long (hz_l rv_6)), (0, .ref y0), (1, .ref y1), (2, .int (hz_i y2)), (5, .int (hz_i x5))]) hx hb dX9_bottomOf_32 rfl hl (by decide) rfl (fun ls hl => ?_)
      obtain ⟨x5_7, hx5_7⟩ : ∃ y : Int, y = x5 + 1 := ⟨_, rfl⟩
      have hw := hw x5_7 hx5_7
      refine lv_iinc (v := hz_i x5_7) (lv' := [(5, .int (hz_i x5_7)), (3, .long (hz_l rv_6)), (0, .ref y0), (1, .ref y1), (2, .int (hz_i y2))]) hx hb dX9_bottomOf_33 hl (k := 4) rfl (by rw [hx5_7]; exact hz_i_add _ _) (by decide) rfl (fun ls hl => ?_)
      refine lv_goto (tgt := 5) hx hb dX9_bottomOf_36 (by decide) ?_
      exact (hP5 rv_6 x5_7).mp hw H locs ls hP hD hS (lv_sub hl [2, 3, 4, 1, 0] rfl)
  have hP := hP0; have hD := hD0; have hS := hS0; have hl := hl0; have hw := hw0
  obtain ⟨H, hH⟩ : ∃ H : Heap, H = s.heap := ⟨_, rfl⟩
  obtain ⟨locs, hlocs⟩ : ∃ L : List Loc, L = [] := ⟨_, rfl⟩
  rw [← hH] at hP
  have hS : va_S Ad s.heap H locs := by rw [hH, hlocs]; exact hS
  refine mw_HL hH hlocs ?_
  refine lv_lconst (v := hz_l 1) hx hb dX9_bottomOf_0 (by decide +kernel) ?_
  refine lv_lstore_n (lv' := [(3, .long (hz_l 1)), (0, .ref y0), (1, .ref y1), (2, .int (hz_i y2))]) hx hb dX9_bottomOf_1 rfl hl (by decide) rfl (fun ls hl => ?_)
  refine lv_iconst (v := hz_i 0) hx hb dX9_bottomOf_2 (by decide +kernel) ?_
  refine lv_istore (lv' := [(5, .int (hz_i 0)), (3, .long (hz_l 1)), (0, .ref y0), (1, .ref y1), (2, .int (hz_i y2))]) hx hb dX9_bottomOf_3 hl (by decide) rfl (fun ls hl => ?_)
  exact L5 1 0 hw H locs ls hP hD hS (lv_sub hl [2, 3, 4, 1, 0] rfl)

noncomputable def wp_c9_topOf (L : List Nat) (K : Nat → cw_K) (z : Nat → Nat → Int) (r : Nat → Nat → Nat) (A : Nat → Nat → Int) (y0 : Nat) (y1 : Int) (y2 : Int) (y3 : Int) (Q : Int → Prop) : Prop := ∀ x5_1 : Int, hz_rI x5_1 → x5_1 % 4294967296 = ((y1 * 4) + y2) % 4294967296 → cw_O L K 9 y0 ∧ cw_A L K 0 (r y0 1) ∧ ((0 : Int) ≤ x5_1 ∧ x5_1 < (cw_n K (r y0 1) : Int)) ∧ hz_rI (A (r y0 1) (x5_1.toNat)) ∧ wp_c11_quotient L K z r A y3 (A (r y0 1) (x5_1.toNat)) (fun rv_4 => cw_A L K 0 (r y0 0) ∧ ((0 : Int) ≤ x5_1 ∧ x5_1 < (cw_n K (r y0 0) : Int)) ∧ hz_rI (A (r y0 0) (x5_1.toNat)) ∧ ∀ x9_6 : Int, hz_rL x9_6 → x9_6 % 18446744073709551616 = (rv_4 * (A (r y0 0) (x5_1.toNat))) % 18446744073709551616 → Q x9_6)
set_option maxHeartbeats 4000000 in
set_option maxRecDepth 100000 in
theorem k_c9_topOf (l : Launch) (D : va_G) (sz : Nat) (C : Nat → ClassId) (L : List Nat) (K : Nat → cw_K) (z : Nat → Nat → Int) (r : Nat → Nat → Nat) (A : Nat → Nat → Int) (y0 : Nat) (y1 : Int) (y2 : Int) (y3 : Int) (Q : Int → Prop) (hw : wp_c9_topOf L K z r A y0 y1 y2 y3 Q) : Met l yX9_topOf wsX9_topOf ({ frames := 1, cells := 0, slots := 0, locals := 23 } : Room) (va_Pc [.ref y0, .int (hz_i y1), .int (hz_i y2), .long (hz_l y3)] (hm_P D (cw_w C L K z r A) (cw_t C) sz)) (va_Ql (S := Int × (Nat → Nat → Int) × (Nat → Nat → Nat) × (Nat → Nat → Int)) (fun r u => r = hz_l u.1 ∧ Q u.1) (fun u t => hm_B D (va_A (cw_w C L K z r A) sz) (cw_w C L K z r A) (cw_t C) t) (va_A (cw_w C L K z r A) sz)) 0 0 (va_A (cw_w C L K z r A) sz) := by
  refine Met.ofW (cc := cX9_topOf) (maxL := 6) (ret := (some .long)) (by decide) rfl ?_
  intro p e s m args below meth c s₁ B hml hv
  obtain ⟨rfl, hsz, hP, hK, hD0, hE⟩ := hv
  have hx := B.exec
  have hb := B.bytes
  have hr := B.returns
  have hts := atoms_spec (ws := wsX9_topOf) B.pre
  have hown : s.vm.findClass RX9 = some m.cls := findClass_of_methodNamed B.named
  have hlocks := B.notSynchronized
  have hin9 : ∀ w ∈ u_ws RX9 TX9 3, w ∈ wsX9_topOf := fun w h => List.mem_cons_of_mem _ (List.mem_append_right _ (h))
  subst hsz
  have hD := hD0.self (sz := s.heap.size)
  generalize hAe : va_A (cw_w C L K z r A) s.heap.size = Ad at hD ⊢
  have hA : ∀ q : Nat, s.heap.size ≤ q → Ad q := fun q h => by rw [← hAe]; exact Or.inr h
  have hS : va_S Ad s.heap s.heap [] := va_S.rf
  have hl := lv_entry ([.ref y0, .int (hz_i y1), .int (hz_i y2), .long (hz_l y3)]) (n := 6) (Nat.le_of_ble_eq_true rfl)
  rw [lg_entry_eq]
  generalize (lg_sl ([.ref y0, .int (hz_i y1), .int (hz_i y2), .long (hz_l y3)]) ++ List.replicate (6 - (lg_sl ([.ref y0, .int (hz_i y1), .int (hz_i y2), .long (hz_l y3)])).length) Slot.unset).toArray = ls at hl ⊢
  have hl : lv_has ls 6 [(0, .ref y0), (1, .int (hz_i y1)), (2, .int (hz_i y2)), (3, .long (hz_l y3))] := hl
  refine mw_Q (fun QQ hQQ => ?_)
  have hP0 := hP; have hD0 := hD; have hS0 := hS; have hl0 := hl; have hw0 := hw
  clear hP hD hS hl hw
  have hP := hP0; have hD := hD0; have hS := hS0; have hl := hl0; have hw := hw0
  obtain ⟨H, hH⟩ : ∃ H : Heap, H = s.heap := ⟨_, rfl⟩
  obtain ⟨locs, hlocs⟩ : ∃ L : List Loc, L = [] := ⟨_, rfl⟩
  rw [← hH] at hP
  have hS : va_S Ad s.heap H locs := by rw [hH, hlocs]; exact hS
  refine mw_HL hH hlocs ?_
  refine lv_iload_n hx hb dX9_topOf_0 rfl (lv_at hl 1 rfl) ?_
  refine lv_iconst (v := hz_i 4) hx hb dX9_topOf_1 (by decide +kernel) ?_
  refine hz_imul hx hb dX9_topOf_2 ?_
  refine lv_iload_n hx hb dX9_topOf_3 rfl (lv_at hl 2 rfl) ?_
  refine hz_iadd hx hb dX9_topOf_4 ?_
  refine cw_nri (fun x5_1 hx5_1a hx5_1b => ?_)
  have hw := hw x5_1 hx5_1a hx5_1b
  refine lv_istore (lv' := [(5, .int (hz_i x5_1)), (0, .ref y0), (1, .int (hz_i y1)), (2, .int (hz_i y2)), (3, .long (hz_l y3))]) hx hb dX9_topOf_5 hl (by decide) rfl (fun ls hl => ?_)
  refine lv_lload_n hx hb dX9_topOf_7 rfl (lv_at hl 4 rfl) ?_
  refine lv_aload_n hx hb dX9_topOf_8 rfl (lv_at hl 1 rfl) ?_
  obtain ⟨hO_2, hw⟩ := hw
  refine cw_get (ci := 9) (v := .ref (r y0 1)) hx hb hts hin9 hown hK hP hO_2.1 hO_2.2 rfl 1 (by decide) (hts (.fieldLink RX9 15 "HiddenMoves$Way" "bottoms" "[I") (List.mem_cons_of_mem _ (List.mem_append_left _ (List.mem_of_getElem? (i := 0) rfl)))) (fun _ h9 => h9) rfl dX9_topOf_9 ?_
  refine lv_iload hx hb dX9_topOf_12 (lv_at hl 0 rfl) ?_
  obtain ⟨hO_3, hw⟩ := hw
  obtain ⟨h9i, hw⟩ := hw
  refine cw_ild hx hb hK hP hO_3.1 hO_3.2.2 h9i hO_3.2.1 dX9_topOf_14 ?_
  obtain ⟨h9a, hw⟩ := hw
  refine hz_wi2l hx hb dX9_topOf_15 h9a ?_
  have hFc := cw_free hD hS hA
  refine va_calll (va_runSN (As := [.long (hz_l y3), .long (hz_l (A (r y0 1) (x5_1.toNat)))]) (rest := []) ⟨hx, hb, hml, hown, hts⟩ (k_c11_quotient l D _ C L K z r A y3 (A (r y0 1) (x5_1.toNat)) _ hw) ⟨va_cnB 2 hts gX9_topOf_X11_quotient_n25 rfl rfl rfl (hE.nest_RX9_25) (hts (.initialized RX11) (List.mem_cons_of_mem _ (List.mem_append_left _ (List.mem_of_getElem? (i := 3) rfl)))) (by decide +kernel) ⟨Nat.le_of_ble_eq_true rfl, Nat.le_of_ble_eq_true rfl⟩, hts (.static yX11_quotient) (List.mem_cons_of_mem _ (List.mem_append_left _ (List.mem_of_getElem? (i := 2) rfl))), trivial⟩ ⟨hm_blind, hm_pre hP hK hD hE⟩ rfl rfl hl.1 rfl (lv_room (Nat.le_of_ble_eq_true rfl)) dX9_topOf_16 ⟨Nat.le_of_ble_eq_true rfl, Nat.le_of_ble_eq_true rfl⟩) hS (fun q _ h => hFc q h) hFc (fun rv u t H1 locs ht hvm hw hB hz1 hk1 hS => ?_)
  obtain ⟨rv_4, _, _, _⟩ := u
  obtain ⟨hP, hK1, hD1⟩ := hB
  rw [ht] at hP
  obtain ⟨hrv, hw⟩ := hw
  subst hrv
  have hD := hD1.weaken (fun k q _ h => hFc q.1 h)
  have hP : va_P D vwCl (cw_w C L K z r A) H1 := hP
  have hD : va_D Ad (cw_w C L K z r A) := hD
  generalize H1 = H at hP hS ⊢
  refine W.eq (g2 := F0 m 19 ls [.long (hz_l rv_4)]) rfl ?_
  refine lv_aload_n hx hb dX9_topOf_19 rfl (lv_at hl 1 rfl) ?_
  refine cw_get (ci := 9) (v := .ref (r y0 0)) hx hb hts hin9 hown hK hP hO_2.1 hO_2.2 rfl 0 (by decide) (hts (.fieldLink RX9 9 "HiddenMoves$Way" "tops" "[I") (List.mem_cons_of_mem _ (List.mem_append_left _ (List.mem_of_getElem? (i := 1) rfl)))) (fun _ h9 => h9) rfl dX9_topOf_20 ?_
  refine lv_iload hx hb dX9_topOf_23 (lv_at hl 0 rfl) ?_
  obtain ⟨hO_5, hw⟩ := hw
  obtain ⟨h9i, hw⟩ := hw
  refine cw_ild hx hb hK hP hO_5.1 hO_5.2.2 h9i hO_5.2.1 dX9_topOf_25 ?_
  obtain ⟨h9a, hw⟩ := hw
  refine hz_wi2l hx hb dX9_topOf_26 h9a ?_
  refine hz_lmul hx hb dX9_topOf_27 ?_
  refine cw_nrl (fun x9_6 hx9_6a hx9_6b => ?_)
  have hw := hw x9_6 hx9_6a hx9_6b
  subst hQQ
  subst hAe
  exact W.lret (v := hz_l x9_6) hx hb hr (fun t ht hW => ⟨⟨hz_l x9_6, (x9_6, z, r, A), rfl, ⟨rfl, hw⟩, by rw [ht]; exact hP, va_K.moved hW.alike hK, hD⟩, hS.F ht⟩) hS.2.2 dX9_topOf_28

noncomputable def wp_c9_isGood_23 (L : List Nat) (K : Nat → cw_K) (z : Nat → Nat → Int) (r : Nat → Nat → Nat) (A : Nat → Nat → Int) (y0 : Nat) (y1 : Nat) (x2 : Int) (x3 : Int) (x5 : Int) (x7 : Int) (P2 : Int → Prop) (Q : Int → Prop) : Prop := ∀ P23 : Int → Int → Prop, (∀ (x5 : Int) (x7 : Int), cw_O L K 7 y1 ∧ cw_A L K 0 (r y1 2) ∧ ((0 : Int) ≤ x2 ∧ x2 < (cw_n K (r y1 2) : Int)) ∧ hz_rI x7 ∧ hz_rI (A (r y1 2) (x2.toNat)) ∧ ((A (r y1 2) (x2.toNat) ≤ x7 → hz_rL x5 ∧ hz_rL x3 ∧ ((x5 = x3 → ∀ x2_5 : Int, x2_5 = x2 + 1 → P2 x2_5) ∧ (¬ (x5 = x3) → Q 0))) ∧ (¬ (A (r y1 2) (x2.toNat) ≤ x7) → cw_O L K 9 y0 ∧ wp_c9_topOf L K z r A y0 x2 x7 x3 (fun rv_6 => ∀ x5_8 : Int, x5_8 = x5 + rv_6 → ∀ x7_9 : Int, x7_9 = x7 + 1 → P23 x5_8 x7_9))) → P23 x5 x7) → P23 x5 x7
noncomputable def wp_c9_isGood_2 (L : List Nat) (K : Nat → cw_K) (z : Nat → Nat → Int) (r : Nat → Nat → Nat) (A : Nat → Nat → Int) (y0 : Nat) (y1 : Nat) (x2 : Int) (Q : Int → Prop) : Prop := ∀ P2 : Int → Prop, (∀ (x2 : Int), cw_O L K 7 y1 ∧ hz_rI x2 ∧ hz_rI (z y1 0) ∧ ((z y1 0 ≤ x2 → Q 1) ∧ (¬ (z y1 0 ≤ x2) → cw_O L K 9 y0 ∧ wp_c9_bottomOf L K z r A y0 y1 x2 (fun rv_12 => wp_c9_isGood_23 L K z r A y0 y1 x2 rv_12 0 0 P2 Q))) → P2 x2) → P2 x2
noncomputable def wp_c9_isGood (L : List Nat) (K : Nat → cw_K) (z : Nat → Nat → Int) (r : Nat → Nat → Nat) (A : Nat → Nat → Int) (y0 : Nat) (y1 : Nat) (Q : Int → Prop) : Prop := wp_c9_isGood_2 L K z r A y0 y1 0  Q
set_option maxHeartbeats 4000000 in
set_option maxRecDepth 100000 in
theorem k_c9_isGood (l : Launch) (D : va_G) (sz : Nat) (C : Nat → ClassId) (L : List Nat) (K : Nat → cw_K) (z : Nat → Nat → Int) (r : Nat → Nat → Nat) (A : Nat → Nat → Int) (y0 : Nat) (y1 : Nat) (Q : Int → Prop) (hw : wp_c9_isGood L K z r A y0 y1 Q) : Met l yX9_isGood wsX9_isGood ({ frames := 4, cells := 0, slots := 0, locals := 98 } : Room) (va_Pc [.ref y0, .ref y1] (hm_P D (cw_w C L K z r A) (cw_t C) sz)) (va_Qi (S := Int × (Nat → Nat → Int) × (Nat → Nat → Nat) × (Nat → Nat → Int)) (fun r u => r = hz_i u.1 ∧ Q u.1) (fun u t => hm_B D (va_A (cw_w C L K z r A) sz) (cw_w C L K z r A) (cw_t C) t) (va_A (cw_w C L K z r A) sz)) 0 0 (va_A (cw_w C L K z r A) sz) := by
  refine Met.ofW (cc := cX9_isGood) (maxL := 8) (ret := (some .boolean)) (by decide) rfl ?_
  intro p e s m args below meth c s₁ B hml hv
  obtain ⟨rfl, hsz, hP, hK, hD0, hE⟩ := hv
  have hx := B.exec
  have hb := B.bytes
  have hr := B.returns
  have hts := atoms_spec (ws := wsX9_isGood) B.pre
  have hown : s.vm.findClass RX9 = some m.cls := findClass_of_methodNamed B.named
  have hlocks := B.notSynchronized
  have hin7 : ∀ w ∈ u_ws RX7 TX7 8, w ∈ wsX9_isGood := fun w h => List.mem_cons_of_mem _ (List.mem_append_left _ (List.mem_append_right _ (h)))
  subst hsz
  have hD := hD0.self (sz := s.heap.size)
  generalize hAe : va_A (cw_w C L K z r A) s.heap.size = Ad at hD ⊢
  have hA : ∀ q : Nat, s.heap.size ≤ q → Ad q := fun q h => by rw [← hAe]; exact Or.inr h
  have hS : va_S Ad s.heap s.heap [] := va_S.rf
  have hl := lv_entry ([.ref y0, .ref y1]) (n := 8) (Nat.le_of_ble_eq_true rfl)
  rw [lg_entry_eq]
  generalize (lg_sl ([.ref y0, .ref y1]) ++ List.replicate (8 - (lg_sl ([.ref y0, .ref y1])).length) Slot.unset).toArray = ls at hl ⊢
  have hl : lv_has ls 8 [(0, .ref y0), (1, .ref y1)] := hl
  refine mw_Q (fun QQ hQQ => ?_)
  have hP0 := hP; have hD0 := hD; have hS0 := hS; have hl0 := hl; have hw0 := hw
  clear hP hD hS hl hw
  have L2 : ∀ (x2 : Int), wp_c9_isGood_2 L K z r A y0 y1 x2  Q → ∀ (H : Heap) (locs : List Loc) (ls : Array Slot), va_P D vwCl (cw_w C L K z r A) H → va_D Ad (cw_w C L K z r A) → va_S Ad s.heap H locs → lv_has ls 8 [(0, .ref y0), (1, .ref y1), (2, .int (hz_i x2))] → W p l e (headSpec wsX9_isGood ({ frames := 4, cells := 0, slots := 0, locals := 98 } : Room)).room s m (List.toArray [.ref y0, .ref y1]) below meth c H locs 0 0 QQ (F0 m 2 ls []) := by
    intro x2 hw
    obtain ⟨P2, hP2⟩ : ∃ P : Int → Prop, ∀ (x2 : Int), P x2 ↔ (∀ (H : Heap) (locs : List Loc) (ls : Array Slot), va_P D vwCl (cw_w C L K z r A) H → va_D Ad (cw_w C L K z r A) → va_S Ad s.heap H locs → lv_has ls 8 [(0, .ref y0), (1, .ref y1), (2, .int (hz_i x2))] → W p l e (headSpec wsX9_isGood ({ frames := 4, cells := 0, slots := 0, locals := 98 } : Room)).room s m (List.toArray [.ref y0, .ref y1]) below meth c H locs 0 0 QQ (F0 m 2 ls [])) := ⟨fun (x2 : Int) => ∀ (H : Heap) (locs : List Loc) (ls : Array Slot), va_P D vwCl (cw_w C L K z r A) H → va_D Ad (cw_w C L K z r A) → va_S Ad s.heap H locs → lv_has ls 8 [(0, .ref y0), (1, .ref y1), (2, .int (hz_i x2))] → W p l e (headSpec wsX9_isGood ({ frames := 4, cells := 0, slots := 0, locals := 98 } : Room)).room s m (List.toArray [.ref y0, .ref y1]) below meth c H locs 0 0 QQ (F0 m 2 ls []), fun _ => Iff.rfl⟩
    refine (hP2 x2).mp (hw P2 ?_)
    intro x2 hw
    refine (hP2 x2).mpr ?_
    intro H locs ls hP hD hS hl
    have L23 : ∀ (x2 : Int) (x3 : Int) (x5 : Int) (x7 : Int), wp_c9_isGood_23 L K z r A y0 y1 x2 x3 x5 x7 P2 Q → ∀ (H : Heap) (locs : List Loc) (ls : Array Slot), va_P D vwCl (cw_w C L K z r A) H → va_D Ad (cw_w C L K z r A) → va_S Ad s.heap H locs → lv_has ls 8 [(0, .ref y0), (1, .ref y1), (2, .int (hz_i x2)), (3, .long (hz_l x3)), (5, .long (hz_l x5)), (7, .int (hz_i x7))] → W p l e (headSpec wsX9_isGood ({ frames := 4, cells := 0, slots := 0, locals := 98 } : Room)).room s m (List.toArray [.ref y0, .ref y1]) below meth c H locs 0 0 QQ (F0 m 23 ls []) := by
      intro x2 x3 x5 x7 hw
      obtain ⟨P23, hP23⟩ : ∃ P : Int → Int → Prop, ∀ (x5 : Int) (x7 : Int), P x5 x7 ↔ (∀ (H : Heap) (locs : List Loc) (ls : Array Slot), va_P D vwCl (cw_w C L K z r A) H → va_D Ad (cw_w C L K z r A) → va_S Ad s.heap H locs → lv_has ls 8 [(0, .ref y0), (1, .ref y1), (2, .int (hz_i x2)), (3, .long (hz_l x3)), (5, .long (hz_l x5)), (7, .int (hz_i x7))] → W p l e (headSpec wsX9_isGood ({ frames := 4, cells := 0, slots := 0, locals := 98 } : Room)).room s m (List.toArray [.ref y0, .ref y1]) below meth c H locs 0 0 QQ (F0 m 23 ls [])) := ⟨fun (x5 : Int) (x7 : Int) => ∀ (H : Heap) (locs : List Loc) (ls : Array Slot), va_P D vwCl (cw_w C L K z r A) H → va_D Ad (cw_w C L K z r A) → va_S Ad s.heap H locs → lv_has ls 8 [(0, .ref y0), (1, .ref y1), (2, .int (hz_i x2)), (3, .long (hz_l x3)), (5, .long (hz_l x5)), (7, .int (hz_i x7))] → W p l e (headSpec wsX9_isGood ({ frames := 4, cells := 0, slots := 0, locals := 98 } : Room)).room s m (List.toArray [.ref y0, .ref y1]) below meth c H locs 0 0 QQ (F0 m 23 ls []), fun _ _ => Iff.rfl⟩
      refine (hP23 x5 x7).mp (hw P23 ?_)
      intro x5 x7 hw
      refine (hP23 x5 x7).mpr ?_
      intro H locs ls hP hD hS hl
      refine lv_iload hx hb dX9_isGood_23 (lv_at hl 5 rfl) ?_
      refine lv_aload_n hx hb dX9_isGood_25 rfl (lv_at hl 1 rfl) ?_
      obtain ⟨hO_1, hw⟩ := hw
      refine cw_get (ci := 7) (v := .ref (r y1 2)) hx hb hts hin7 hown hK hP hO_1.1 hO_1.2 rfl 2 (by decide) (hts (.fieldLink RX9 38 "HiddenMoves$Side" "moves" "[I") (List.mem_cons_of_mem _ (List.mem_append_left _ (List.mem_append_left _ (List.mem_append_left _ (List.mem_of_getElem? (i := 1) rfl)))))) (fun _ h9 => h9) rfl dX9_isGood_26 ?_
      refine lv_iload_n hx hb dX9_isGood_29 rfl (lv_at hl 2 rfl) ?_
      obtain ⟨hO_2, hw⟩ := hw
      obtain ⟨h9i, hw⟩ := hw
      refine cw_ild hx hb hK hP hO_2.1 hO_2.2.2 h9i hO_2.2.1 dX9_isGood_30 ?_
      obtain ⟨h9a, hw⟩ := hw
      obtain ⟨h9b, hw⟩ := hw
      refine hz_icmp_ge (tgt := 53) hx hb dX9_isGood_31 (by decide) h9a h9b (fun c_3 => ?_) (fun c_3 => ?_)
      · have hw := hw.1 c_3
        refine lv_lload hx hb dX9_isGood_53 (lv_at hl 4 rfl) ?_
        refine lv_lload_n hx hb dX9_isGood_55 rfl (lv_at hl 3 rfl) ?_
        obtain ⟨h9a, hw⟩ := hw
        obtain ⟨h9b, hw⟩ := hw
        refine hz_lcmp_eq (tgt := 62) hx hb dX9_isGood_56 dX9_isGood_57 (by decide) h9a h9b (fun c_4 => ?_) (fun c_4 => ?_)
        · have hw := hw.1 c_4
          obtain ⟨x2_5, hx2_5⟩ : ∃ y : Int, y = x2 + 1 := ⟨_, rfl⟩
          have hw := hw x2_5 hx2_5
          refine lv_iinc (v := hz_i x2_5) (lv' := [(2, .int (hz_i x2_5)), (0, .ref y0), (1, .ref y1), (3, .long (hz_l x3)), (5, .long (hz_l x5)), (7, .int (hz_i x7))]) hx hb dX9_isGood_62 hl (k := 2) rfl (by rw [hx2_5]; exact hz_i_add _ _) (by decide) rfl (fun ls hl => ?_)
          refine lv_goto (tgt := 2) hx hb dX9_isGood_65 (by decide) ?_
          exact (hP2 x2_5).mp hw H locs ls hP hD hS (lv_sub hl [1, 2, 0] rfl)
        · have hw := hw.2 c_4
          refine lv_iconst (v := hz_i 0) hx hb dX9_isGood_60 (by decide +kernel) ?_
          subst hQQ
          subst hAe
          exact W.zret (v := hz_i 0) hx hb hr (hz_tZ (by decide)) (fun t ht hW => ⟨⟨hz_i 0, (0, z, r, A), rfl, ⟨rfl, hw⟩, by rw [ht]; exact hP, va_K.moved hW.alike hK, hD⟩, hS.F ht⟩) hS.2.2 dX9_isGood_61
      · have hw := hw.2 c_3
        refine lv_lload hx hb dX9_isGood_34 (lv_at hl 4 rfl) ?_
        refine lv_aload_n hx hb dX9_isGood_36 rfl (lv_at hl 0 rfl) ?_
        refine lv_iload_n hx hb dX9_isGood_37 rfl (lv_at hl 2 rfl) ?_
        refine lv_iload hx hb dX9_isGood_38 (lv_at hl 5 rfl) ?_
        refine lv_lload_n hx hb dX9_isGood_40 rfl (lv_at hl 3 rfl) ?_
        obtain ⟨hO_7, hw⟩ := hw
        have hFc := cw_free hD hS hA
        obtain ⟨q9, hq9⟩ := cw_at (C := C) (z := z) (r := r) (A := A) hO_7.1 hO_7.2
        refine va_calll (va_runV (As := [.int (hz_i x2), .int (hz_i x7), .long (hz_l x3)]) (rest := [.long (hz_l x5)]) ⟨hx, hb, hml, hown, hts⟩ (k_c9_topOf l D _ C L K z r A y0 x2 x7 x3 _ hw) (cwV 3 hts gX9_isGood_X9_topOf rfl rfl rfl (by decide +kernel) ⟨Nat.le_of_ble_eq_true rfl, Nat.le_of_ble_eq_true rfl⟩) ⟨hm_blind, va_recv hK hP (ci := 9) (q0 := q9) rfl hq9, hm_pre hP hK hD hE⟩ rfl rfl hl.1 rfl (lv_room (Nat.le_of_ble_eq_true rfl)) dX9_isGood_41 ⟨Nat.le_of_ble_eq_true rfl, Nat.le_of_ble_eq_true rfl⟩) hS (fun q _ h => hFc q h) hFc (fun rv u t H1 locs ht hvm hw hB hz1 hk1 hS => ?_)
        obtain ⟨rv_6, _, _, _⟩ := u
        obtain ⟨hP, hK1, hD1⟩ := hB
        rw [ht] at hP
        obtain ⟨hrv, hw⟩ := hw
        subst hrv
        have hD := hD1.weaken (fun k q _ h => hFc q.1 h)
        have hP : va_P D vwCl (cw_w C L K z r A) H1 := hP
        have hD : va_D Ad (cw_w C L K z r A) := hD
        generalize H1 = H at hP hS ⊢
        refine W.eq (g2 := F0 m 44 ls [.long (hz_l rv_6), .long (hz_l x5)]) rfl ?_
        refine hz_ladd hx hb dX9_isGood_44 ?_
        refine hz_topl (fun x5_8 hx5_8 => ?_)
        have hw := hw x5_8 hx5_8
        refine lv_lstore (lv' := [(5, .long (hz_l x5_8)), (0, .ref y0), (1, .ref y1), (2, .int (hz_i x2)), (3, .long (hz_l x3)), (7, .int (hz_i x7))]) hx hb dX9_isGood_45 hl (by decide) rfl (fun ls hl => ?_)
        obtain ⟨x7_9, hx7_9⟩ : ∃ y : Int, y = x7 + 1 := ⟨_, rfl⟩
        have hw := hw x7_9 hx7_9
        refine lv_iinc (v := hz_i x7_9) (lv' := [(7, .int (hz_i x7_9)), (5, .long (hz_l x5_8)), (0, .ref y0), (1, .ref y1), (2, .int (hz_i x2)), (3, .long (hz_l x3))]) hx hb dX9_isGood_47 hl (k := 5) rfl (by rw [hx7_9]; exact hz_i_add _ _) (by decide) rfl (fun ls hl => ?_)
        refine lv_goto (tgt := 23) hx hb dX9_isGood_50 (by decide) ?_
        exact (hP23 x5_8 x7_9).mp hw H locs ls hP hD hS (lv_sub hl [2, 3, 4, 5, 1, 0] rfl)
    refine lv_iload_n hx hb dX9_isGood_2 rfl (lv_at hl 2 rfl) ?_
    refine lv_aload_n hx hb dX9_isGood_3 rfl (lv_at hl 1 rfl) ?_
    obtain ⟨hO_10, hw⟩ := hw
    refine cw_get (ci := 7) (v := .int (hz_i (z y1 0))) hx hb hts hin7 hown hK hP hO_10.1 hO_10.2 rfl 0 (by decide) (hts (.fieldLink RX9 28 "HiddenMoves$Side" "sets" "I") (List.mem_cons_of_mem _ (List.mem_append_left _ (List.mem_append_left _ (List.mem_append_left _ (List.mem_of_getElem? (i := 0) rfl)))))) (fun _ h9 => h9) rfl dX9_isGood_4 ?_
    obtain ⟨h9a, hw⟩ := hw
    obtain ⟨h9b, hw⟩ := hw
    refine hz_icmp_ge (tgt := 68) hx hb dX9_isGood_7 (by decide) h9a h9b (fun c_11 => ?_) (fun c_11 => ?_)
    · have hw := hw.1 c_11
      refine lv_iconst (v := hz_i 1) hx hb dX9_isGood_68 (by decide +kernel) ?_
      subst hQQ
      subst hAe
      exact W.zret (v := hz_i 1) hx hb hr (hz_tZ (by decide)) (fun t ht hW => ⟨⟨hz_i 1, (1, z, r, A), rfl, ⟨rfl, hw⟩, by rw [ht]; exact hP, va_K.moved hW.alike hK, hD⟩, hS.F ht⟩) hS.2.2 dX9_isGood_69
    · have hw := hw.2 c_11
      refine lv_aload_n hx hb dX9_isGood_10 rfl (lv_at hl 0 rfl) ?_
      refine lv_aload_n hx hb dX9_isGood_11 rfl (lv_at hl 1 rfl) ?_
      refine lv_iload_n hx hb dX9_isGood_12 rfl (lv_at hl 2 rfl) ?_
      obtain ⟨hO_13, hw⟩ := hw
      have hFc := cw_free hD hS hA
      obtain ⟨q9, hq9⟩ := cw_at (C := C) (z := z) (r := r) (A := A) hO_13.1 hO_13.2
      refine va_calll (va_runV (As := [.ref y1, .int (hz_i x2)]) (rest := []) ⟨hx, hb, hml, hown, hts⟩ (k_c9_bottomOf l D _ C L K z r A y0 y1 x2 _ hw) (cwV 2 hts gX9_isGood_X9_bottomOf rfl rfl rfl (by decide +kernel) ⟨Nat.le_of_ble_eq_true rfl, Nat.le_of_ble_eq_true rfl⟩) ⟨hm_blind, va_recv hK hP (ci := 9) (q0 := q9) rfl hq9, hm_pre hP hK hD hE⟩ rfl rfl hl.1 rfl (lv_room (Nat.le_of_ble_eq_true rfl)) dX9_isGood_13 ⟨Nat.le_of_ble_eq_true rfl, Nat.le_of_ble_eq_true rfl⟩) hS (fun q _ h => hFc q h) hFc (fun rv u t H1 locs ht hvm hw hB hz1 hk1 hS => ?_)
      obtain ⟨rv_12, _, _, _⟩ := u
      obtain ⟨hP, hK1, hD1⟩ := hB
      rw [ht] at hP
      obtain ⟨hrv, hw⟩ := hw
      subst hrv
      have hD := hD1.weaken (fun k q _ h => hFc q.1 h)
      have hP : va_P D vwCl (cw_w C L K z r A) H1 := hP
      have hD : va_D Ad (cw_w C L K z r A) := hD
      generalize H1 = H at hP hS ⊢
      refine W.eq (g2 := F0 m 16 ls [.long (hz_l rv_12)]) rfl ?_
      refine lv_lstore_n (lv' := [(3, .long (hz_l rv_12)), (0, .ref y0), (1, .ref y1), (2, .int (hz_i x2))]) hx hb dX9_isGood_16 rfl hl (by decide) rfl (fun ls hl => ?_)
      refine lv_lconst (v := hz_l 0) hx hb dX9_isGood_17 (by decide +kernel) ?_
      refine lv_lstore (lv' := [(5, .long (hz_l 0)), (3, .long (hz_l rv_12)), (0, .ref y0), (1, .ref y1), (2, .int (hz_i x2))]) hx hb dX9_isGood_18 hl (by decide) rfl (fun ls hl => ?_)
      refine lv_iconst (v := hz_i 0) hx hb dX9_isGood_20 (by decide +kernel) ?_
      refine lv_istore (lv' := [(7, .int (hz_i 0)), (5, .long (hz_l 0)), (3, .long (hz_l rv_12)), (0, .ref y0), (1, .ref y1), (2, .int (hz_i x2))]) hx hb dX9_isGood_21 hl (by decide) rfl (fun ls hl => ?_)
      exact L23 x2 rv_12 0 0 hw H locs ls hP hD hS (lv_sub hl [3, 4, 5, 2, 1, 0] rfl)
  have hP := hP0; have hD := hD0; have hS := hS0; have hl := hl0; have hw := hw0
  obtain ⟨H, hH⟩ : ∃ H : Heap, H = s.heap := ⟨_, rfl⟩
  obtain ⟨locs, hlocs⟩ : ∃ L : List Loc, L = [] := ⟨_, rfl⟩
  rw [← hH] at hP
  have hS : va_S Ad s.heap H locs := by rw [hH, hlocs]; exact hS
  refine mw_HL hH hlocs ?_
  refine lv_iconst (v := hz_i 0) hx hb dX9_isGood_0 (by decide +kernel) ?_
  refine lv_istore_n (lv' := [(2, .int (hz_i 0)), (0, .ref y0), (1, .ref y1)]) hx hb dX9_isGood_1 rfl hl (by decide) rfl (fun ls hl => ?_)
  exact L2 0 hw H locs ls hP hD hS (lv_sub hl [1, 2, 0] rfl)

noncomputable def wp_c11_isGood (L : List Nat) (K : Nat → cw_K) (z : Nat → Nat → Int) (r : Nat → Nat → Nat) (A : Nat → Nat → Int) (y0 : Nat) (y1 : Int) (Q : Int → Prop) : Prop := cw_O L K 11 y0 ∧ cw_G L K 9 (r y0 4) ∧ ((0 : Int) ≤ y1 ∧ y1 < (cw_n K (r y0 4) : Int)) ∧ cw_O L K 2 (r y0 13) ∧ cw_G L K 7 (r (r y0 13) 1) ∧ ((0 : Int) ≤ y1 ∧ y1 < (cw_n K (r (r y0 13) 1) : Int)) ∧ cw_O L K 9 (cw_g K (r y0 4) (y1.toNat)) ∧ wp_c9_isGood L K z r A (cw_g K (r y0 4) (y1.toNat)) (cw_g K (r (r y0 13) 1) (y1.toNat)) (fun rv_5 => (rv_5 = 0 ∨ rv_5 = 1) ∧ Q rv_5)
set_option maxHeartbeats 4000000 in
set_option maxRecDepth 100000 in
theorem k_c11_isGood (l : Launch) (D : va_G) (sz : Nat) (C : Nat → ClassId) (L : List Nat) (K : Nat → cw_K) (z : Nat → Nat → Int) (r : Nat → Nat → Nat) (A : Nat → Nat → Int) (y0 : Nat) (y1 : Int) (Q : Int → Prop) (hw : wp_c11_isGood L K z r A y0 y1 Q) : Met l yX11_isGood wsX11_isGood ({ frames := 5, cells := 0, slots := 0, locals := 125 } : Room) (va_Pc [.ref y0, .int (hz_i y1)] (hm_P D (cw_w C L K z r A) (cw_t C) sz)) (va_Qi (S := Int × (Nat → Nat → Int) × (Nat → Nat → Nat) × (Nat → Nat → Int)) (fun r u => r = hz_i u.1 ∧ Q u.1) (fun u t => hm_B D (va_A (cw_w C L K z r A) sz) (cw_w C L K z r A) (cw_t C) t) (va_A (cw_w C L K z r A) sz)) 0 0 (va_A (cw_w C L K z r A) sz) := by
  refine Met.ofW (cc := cX11_isGood) (maxL := 2) (ret := (some .boolean)) (by decide) rfl ?_
  intro p e s m args below meth c s₁ B hml hv
  obtain ⟨rfl, hsz, hP, hK, hD0, hE⟩ := hv
  have hx := B.exec
  have hb := B.bytes
  have hr := B.returns
  have hts := atoms_spec (ws := wsX11_isGood) B.pre
  have hown : s.vm.findClass RX11 = some m.cls := findClass_of_methodNamed B.named
  have hlocks := B.notSynchronized
  have hin2 : ∀ w ∈ u_ws RX2 TX2 4, w ∈ wsX11_isGood := fun w h => List.mem_cons_of_mem _ (List.mem_append_left _ (List.mem_append_left _ (List.mem_append_right _ (h))))
  have hin11 : ∀ w ∈ u_ws RX11 TX11 16, w ∈ wsX11_isGood := fun w h => List.mem_cons_of_mem _ (List.mem_append_left _ (List.mem_append_left _ (List.mem_append_left _ (List.mem_append_right _ (h)))))
  subst hsz
  have hD := hD0.self (sz := s.heap.size)
  generalize hAe : va_A (cw_w C L K z r A) s.heap.size = Ad at hD ⊢
  have hA : ∀ q : Nat, s.heap.size ≤ q → Ad q := fun q h => by rw [← hAe]; exact Or.inr h
  have hS : va_S Ad s.heap s.heap [] := va_S.rf
  have hl := lv_entry ([.ref y0, .int (hz_i y1)]) (n := 2) (Nat.le_of_ble_eq_true rfl)
  rw [lg_entry_eq]
  generalize (lg_sl ([.ref y0, .int (hz_i y1)]) ++ List.replicate (2 - (lg_sl ([.ref y0, .int (hz_i y1)])).length) Slot.unset).toArray = ls at hl ⊢
  have hl : lv_has ls 2 [(0, .ref y0), (1, .int (hz_i y1))] := hl
  refine mw_Q (fun QQ hQQ => ?_)
  have hP0 := hP; have hD0 := hD; have hS0 := hS; have hl0 := hl; have hw0 := hw
  clear hP hD hS hl hw
  have hP := hP0; have hD := hD0; have hS := hS0; have hl := hl0; have hw := hw0
  obtain ⟨H, hH⟩ : ∃ H : Heap, H = s.heap := ⟨_, rfl⟩
  obtain ⟨locs, hlocs⟩ : ∃ L : List Loc, L = [] := ⟨_, rfl⟩
  rw [← hH] at hP
  have hS : va_S Ad s.heap H locs := by rw [hH, hlocs]; exact hS
  refine mw_HL hH hlocs ?_
  refine lv_aload_n hx hb dX11_isGood_0 rfl (lv_at hl 0 rfl) ?_
  obtain ⟨hO_1, hw⟩ := hw
  refine cw_get (ci := 11) (v := .ref (r y0 4)) hx hb hts hin11 hown hK hP hO_1.1 hO_1.2 rfl 4 (by decide) (hts (.fieldLink RX11 33 "HiddenMoves" "ways" "[LHiddenMoves$Way;") (List.mem_cons_of_mem _ (List.mem_append_left _ (List.mem_append_left _ (List.mem_append_left _ (List.mem_append_left _ (List.mem_append_left _ (List.mem_of_getElem? (i := 0) rfl)))))))) (fun _ h9 => h9) rfl dX11_isGood_1 ?_
  refine lv_iload_n hx hb dX11_isGood_4 rfl (lv_at hl 1 rfl) ?_
  obtain ⟨hO_2, hw⟩ := hw
  obtain ⟨h9i, hw⟩ := hw
  refine cw_ald hx hb hK hP hO_2.1 hO_2.2.2 rfl h9i hO_2.2.1 dX11_isGood_5 ?_
  refine lv_aload_n hx hb dX11_isGood_6 rfl (lv_at hl 0 rfl) ?_
  refine cw_get (ci := 11) (v := .ref (r y0 13)) hx hb hts hin11 hown hK hP hO_1.1 hO_1.2 rfl 13 (by decide) (hts (.fieldLink RX11 83 "HiddenMoves" "game" "LHiddenMoves$Game;") (List.mem_cons_of_mem _ (List.mem_append_left _ (List.mem_append_left _ (List.mem_append_left _ (List.mem_append_left _ (List.mem_append_left _ (List.mem_of_getElem? (i := 1) rfl)))))))) (fun _ h9 => h9) rfl dX11_isGood_7 ?_
  obtain ⟨hO_3, hw⟩ := hw
  refine cw_get (ci := 2) (v := .ref (r (r y0 13) 1)) hx hb hts hin2 hown hK hP hO_3.1 hO_3.2 rfl 1 (by decide) (hts (.fieldLink RX11 238 "HiddenMoves$Game" "sides" "[LHiddenMoves$Side;") (List.mem_cons_of_mem _ (List.mem_append_left _ (List.mem_append_left _ (List.mem_append_left _ (List.mem_append_left _ (List.mem_append_left _ (List.mem_of_getElem? (i := 2) rfl)))))))) (fun _ h9 => h9) rfl dX11_isGood_10 ?_
  refine lv_iload_n hx hb dX11_isGood_13 rfl (lv_at hl 1 rfl) ?_
  obtain ⟨hO_4, hw⟩ := hw
  obtain ⟨h9i, hw⟩ := hw
  refine cw_ald hx hb hK hP hO_4.1 hO_4.2.2 rfl h9i hO_4.2.1 dX11_isGood_14 ?_
  obtain ⟨hO_6, hw⟩ := hw
  have hFc := cw_free hD hS hA
  obtain ⟨q9, hq9⟩ := cw_at (C := C) (z := z) (r := r) (A := A) hO_6.1 hO_6.2
  refine va_calli (va_runV (As := [.ref (cw_g K (r (r y0 13) 1) (y1.toNat))]) (rest := []) ⟨hx, hb, hml, hown, hts⟩ (k_c9_isGood l D _ C L K z r A (cw_g K (r y0 4) (y1.toNat)) (cw_g K (r (r y0 13) 1) (y1.toNat)) _ hw) (cwV 1 hts gX11_isGood_X9_isGood rfl rfl rfl (by decide +kernel) ⟨Nat.le_of_ble_eq_true rfl, Nat.le_of_ble_eq_true rfl⟩) ⟨hm_blind, va_recv hK hP (ci := 9) (q0 := q9) rfl hq9, hm_pre hP hK hD hE⟩ rfl rfl hl.1 rfl (lv_room (Nat.le_of_ble_eq_true rfl)) dX11_isGood_15 ⟨Nat.le_of_ble_eq_true rfl, Nat.le_of_ble_eq_true rfl⟩) hS (fun q _ h => hFc q h) hFc (fun rv u t H1 locs ht hvm hw hB hz1 hk1 hS => ?_)
  obtain ⟨rv_5, _, _, _⟩ := u
  obtain ⟨hP, hK1, hD1⟩ := hB
  rw [ht] at hP
  obtain ⟨hrv, hw⟩ := hw
  subst hrv
  have hD := hD1.weaken (fun k q _ h => hFc q.1 h)
  have hP : va_P D vwCl (cw_w C L K z r A) H1 := hP
  have hD : va_D Ad (cw_w C L K z r A) := hD
  generalize H1 = H at hP hS ⊢
  refine W.eq (g2 := F0 m 18 ls [.int (hz_i rv_5)]) rfl ?_
  obtain ⟨h9z, hw⟩ := hw
  subst hQQ
  subst hAe
  exact W.zret (v := hz_i rv_5) hx hb hr (hz_tZ h9z) (fun t ht hW => ⟨⟨hz_i rv_5, (rv_5, z, r, A), rfl, ⟨rfl, hw⟩, by rw [ht]; exact hP, va_K.moved hW.alike hK, hD⟩, hS.F ht⟩) hS.2.2 dX11_isGood_18

-- 17.c05
noncomputable def wp_c9_markTaken_67 (L : List Nat) (K : Nat → cw_K) (z : Nat → Nat → Int) (r : Nat → Nat → Nat) (A : Nat → Nat → Int) (Q : (Nat → Nat → Int) → Prop) : Prop := Q A
noncomputable def wp_c9_markTaken_26 (L : List Nat) (K : Nat → cw_K) (z : Nat → Nat → Int) (r : Nat → Nat → Nat) (A : Nat → Nat → Int) (y0 : Nat) (y1 : Nat) (x3 : Int) (x4 : Int) (Q : (Nat → Nat → Int) → Prop) : Prop := ∀ P26 : (Nat → Nat → Int) → Int → Int → Prop, (∀ (A : Nat → Nat → Int) (x3 : Int) (x4 : Int), hz_rI x4 ∧ ((10 ≤ x4 → wp_c9_markTaken_67 L K z r A  Q) ∧ (¬ (10 ≤ x4) → hz_rI x3 ∧ ((x3 = (-1) → wp_c9_markTaken_67 L K z r A  Q) ∧ (¬ (x3 = (-1)) → cw_O L K 9 y0 ∧ wp_c7_setOf L K z r A x3 (fun rv_4 => wp_c7_moveOf L K z r A x3 (fun rv_5 => cw_A L K 0 (r y0 2) ∧ ((0 : Int) ≤ rv_4 ∧ rv_4 < (cw_n K (r y0 2) : Int)) ∧ ∀ A_7 : Nat → Nat → Int, A_7 = hz_s A (r y0 2) rv_4 rv_5 → cw_O L K 7 y1 ∧ wp_c7_setOf L K z r A_7 x3 (fun rv_9 => cw_A L K 0 (r y1 4) ∧ ((0 : Int) ≤ rv_9 ∧ rv_9 < (cw_n K (r y1 4) : Int)) ∧ ∀ x3_11 : Int, x3_11 = A_7 (r y1 4) (rv_9.toNat) → ∀ x4_12 : Int, x4_12 = x4 + 1 → P26 A_7 x3_11 x4_12))))))) → P26 A x3 x4) → P26 A x3 x4
noncomputable def wp_c9_markTaken_2 (L : List Nat) (K : Nat → cw_K) (z : Nat → Nat → Int) (r : Nat → Nat → Nat) (A : Nat → Nat → Int) (y0 : Nat) (y1 : Nat) (y2 : Int) (x3 : Int) (Q : (Nat → Nat → Int) → Prop) : Prop := ∀ P2 : (Nat → Nat → Int) → Int → Prop, (∀ (A : Nat → Nat → Int) (x3 : Int), hz_rI x3 ∧ ((10 ≤ x3 → wp_c9_markTaken_26 L K z r A y0 y1 y2 0  Q) ∧ (¬ (10 ≤ x3) → cw_O L K 9 y0 ∧ cw_A L K 0 (r y0 2) ∧ ((0 : Int) ≤ x3 ∧ x3 < (cw_n K (r y0 2) : Int)) ∧ ∀ A_16 : Nat → Nat → Int, A_16 = hz_s A (r y0 2) x3 (-1) → ∀ x3_17 : Int, x3_17 = x3 + 1 → P2 A_16 x3_17)) → P2 A x3) → P2 A x3
noncomputable def wp_c9_markTaken (L : List Nat) (K : Nat → cw_K) (z : Nat → Nat → Int) (r : Nat → Nat → Nat) (A : Nat → Nat → Int) (y0 : Nat) (y1 : Nat) (y2 : Int) (Q : (Nat → Nat → Int) → Prop) : Prop := wp_c9_markTaken_2 L K z r A y0 y1 y2 0  Q
set_option maxHeartbeats 4000000 in
set_option maxRecDepth 100000 in
theorem k_c9_markTaken (l : Launch) (D : va_G) (sz : Nat) (C : Nat → ClassId) (L : List Nat) (K : Nat → cw_K) (z : Nat → Nat → Int) (r : Nat → Nat → Nat) (A : Nat → Nat → Int) (y0 : Nat) (y1 : Nat) (y2 : Int) (Q : (Nat → Nat → Int) → Prop) (hw : wp_c9_markTaken L K z r A y0 y1 y2 Q) : Met l yX9_markTaken wsX9_markTaken ({ frames := 1, cells := 0, slots := 0, locals := 20 } : Room) (va_Pc [.ref y0, .ref y1, .int (hz_i y2)] (hm_P D (cw_w C L K z r A) (cw_t C) sz)) (va_Qv (S := Int × (Nat → Nat → Int) × (Nat → Nat → Nat) × (Nat → Nat → Int)) (fun u => Q u.2.2.2) (fun u t => hm_B D (va_A (cw_w C L K z r A) sz) (cw_w C L K z r u.2.2.2) (cw_t C) t) (va_A (cw_w C L K z r A) sz)) 0 0 (va_A (cw_w C L K z r A) sz) := by
  refine Met.ofW (cc := cX9_markTaken) (maxL := 5) (ret := none) (by decide) rfl ?_
  intro p e s m args below meth c s₁ B hml hv
  obtain ⟨rfl, hsz, hP, hK, hD0, hE⟩ := hv
  have hx := B.exec
  have hb := B.bytes
  have hr := B.returns
  have hts := atoms_spec (ws := wsX9_markTaken) B.pre
  have hown : s.vm.findClass RX9 = some m.cls := findClass_of_methodNamed B.named
  have hlocks := B.notSynchronized
  have hin7 : ∀ w ∈ u_ws RX7 TX7 8, w ∈ wsX9_markTaken := fun w h => List.mem_cons_of_mem _ (List.mem_append_right _ (h))
  have hin9 : ∀ w ∈ u_ws RX9 TX9 3, w ∈ wsX9_markTaken := fun w h => List.mem_cons_of_mem _ (List.mem_append_left _ (List.mem_append_right _ (h)))
  subst hsz
  have hD := hD0.self (sz := s.heap.size)
  generalize hAe : va_A (cw_w C L K z r A) s.heap.size = Ad at hD ⊢
  have hA : ∀ q : Nat, s.heap.size ≤ q → Ad q := fun q h => by rw [← hAe]; exact Or.inr h
  have hS : va_S Ad s.heap s.heap [] := va_S.rf
  have hl := lv_entry ([.ref y0, .ref y1, .int (hz_i y2)]) (n := 5) (Nat.le_of_ble_eq_true rfl)
  rw [lg_entry_eq]
  generalize (lg_sl ([.ref y0, .ref y1, .int (hz_i y2)]) ++ List.replicate (5 - (lg_sl ([.ref y0, .ref y1, .int (hz_i y2)])).length) Slot.unset).toArray = ls at hl ⊢
  have hl : lv_has ls 5 [(0, .ref y0), (1, .ref y1), (2, .int (hz_i y2))] := hl
  refine mw_Q (fun QQ hQQ => ?_)
  have hP0 := hP; have hD0 := hD; have hS0 := hS; have hl0 := hl; have hw0 := hw
  clear hP hD hS hl hw
  have L67 : ∀ (A : Nat → Nat → Int), wp_c9_markTaken_67 L K z r A  Q → ∀ (H : Heap) (locs : List Loc) (ls : Array Slot), va_P D vwCl (cw_w C L K z r A) H → va_D Ad (cw_w C L K z r A) → va_S Ad s.heap H locs → lv_has ls 5 [] → W p l e (headSpec wsX9_markTaken ({ frames := 1, cells := 0, slots := 0, locals := 20 } : Room)).room s m (List.toArray [.ref y0, .ref y1, .int (hz_i y2)]) below meth c H locs 0 0 QQ (F0 m 67 ls []) := by
    intro A hw H locs ls hP hD hS hl
    subst hQQ
    subst hAe
    exact W.vret hx hb hr (fun t ht hW => ⟨⟨(0, z, r, A), rfl, hw, by rw [ht]; exact hP, va_K.moved hW.alike hK, hD⟩, hS.F ht⟩) hS.2.2 dX9_markTaken_67
  have L26 : ∀ (A : Nat → Nat → Int) (x3 : Int) (x4 : Int), wp_c9_markTaken_26 L K z r A y0 y1 x3 x4  Q → ∀ (H : Heap) (locs : List Loc) (ls : Array Slot), va_P D vwCl (cw_w C L K z r A) H → va_D Ad (cw_w C L K z r A) → va_S Ad s.heap H locs → lv_has ls 5 [(0, .ref y0), (1, .ref y1), (3, .int (hz_i x3)), (4, .int (hz_i x4))] → W p l e (headSpec wsX9_markTaken ({ frames := 1, cells := 0, slots := 0, locals := 20 } : Room)).room s m (List.toArray [.ref y0, .ref y1, .int (hz_i y2)]) below meth c H locs 0 0 QQ (F0 m 26 ls []) := by
    intro A x3 x4 hw
    obtain ⟨P26, hP26⟩ : ∃ P : (Nat → Nat → Int) → Int → Int → Prop, ∀ (A : Nat → Nat → Int) (x3 : Int) (x4 : Int), P A x3 x4 ↔ (∀ (H : Heap) (locs : List Loc) (ls : Array Slot), va_P D vwCl (cw_w C L K z r A) H → va_D Ad (cw_w C L K z r A) → va_S Ad s.heap H locs → lv_has ls 5 [(0, .ref y0), (1, .ref y1), (3, .int (hz_i x3)), (4, .int (hz_i x4))] → W p l e (headSpec wsX9_markTaken ({ frames := 1, cells := 0, slots := 0, locals := 20 } : Room)).room s m (List.toArray [.ref y0, .ref y1, .int (hz_i y2)]) below meth c H locs 0 0 QQ (F0 m 26 ls [])) := ⟨fun (A : Nat → Nat → Int) (x3 : Int) (x4 : Int) => ∀ (H : Heap) (locs : List Loc) (ls : Array Slot), va_P D vwCl (cw_w C L K z r A) H → va_D Ad (cw_w C L K z r A) → va_S Ad s.heap H locs → lv_has ls 5 [(0, .ref y0), (1, .ref y1), (3, .int (hz_i x3)), (4, .int (hz_i x4))] → W p l e (headSpec wsX9_markTaken ({ frames := 1, cells := 0, slots := 0, locals := 20 } : Room)).room s m (List.toArray [.ref y0, .ref y1, .int (hz_i y2)]) below meth c H locs 0 0 QQ (F0 m 26 ls []), fun _ _ _ => Iff.rfl⟩
    refine (hP26 A x3 x4).mp (hw P26 ?_)
    intro A x3 x4 hw
    refine (hP26 A x3 x4).mpr ?_
    intro H locs ls hP hD hS hl
    refine lv_iload hx hb dX9_markTaken_26 (lv_at hl 3 rfl) ?_
    refine lv_bipush (v := hz_i 10) hx hb dX9_markTaken_28 (by decide +kernel) ?_
    obtain ⟨h9a, hw⟩ := hw
    refine hz_icmp_ge (tgt := 67) hx hb dX9_markTaken_30 (by decide) h9a ⟨by decide, by decide⟩ (fun c_1 => ?_) (fun c_1 => ?_)
    · have hw := hw.1 c_1
      exact L67 A hw H locs ls hP hD hS (lv_sub hl [] rfl)
    · have hw := hw.2 c_1
      refine lv_iload_n hx hb dX9_markTaken_33 rfl (lv_at hl 2 rfl) ?_
      refine lv_iconst (v := hz_i (-1)) hx hb dX9_markTaken_34 (by decide +kernel) ?_
      obtain ⟨h9a, hw⟩ := hw
      refine hz_icmp_eq (tgt := 67) hx hb dX9_markTaken_35 (by decide) h9a ⟨by decide, by decide⟩ (fun c_2 => ?_) (fun c_2 => ?_)
      · have hw := hw.1 c_2
        exact L67 A hw H locs ls hP hD hS (lv_sub hl [] rfl)
      · have hw := hw.2 c_2
        refine lv_aload_n hx hb dX9_markTaken_38 rfl (lv_at hl 0 rfl) ?_
        obtain ⟨hO_3, hw⟩ := hw
        refine cw_get (ci := 9) (v := .ref (r y0 2)) hx hb hts hin9 hown hK hP hO_3.1 hO_3.2 rfl 2 (by decide) (hts (.fieldLink RX9 18 "HiddenMoves$Way" "taken" "[I") (List.mem_cons_of_mem _ (List.mem_append_left _ (List.mem_append_left _ (List.mem_of_getElem? (i := 0) rfl))))) (fun _ h9 => h9) rfl dX9_markTaken_39 ?_
        refine lv_iload_n hx hb dX9_markTaken_42 rfl (lv_at hl 2 rfl) ?_
        have hFc := cw_free hD hS hA
        refine va_calli (va_runS (As := [.int (hz_i x3)]) (rest := [.ref (r y0 2)]) ⟨hx, hb, hml, hown, hts⟩ (k_c7_setOf l D _ C L K z r A x3 _ hw) (va_cwS 1 hts gX9_markTaken_X7_setOf rfl rfl rfl (by decide +kernel) ⟨Nat.le_of_ble_eq_true rfl, Nat.le_of_ble_eq_true rfl⟩) ⟨hm_blind, hm_pre hP hK hD hE⟩ rfl rfl hl.1 rfl (lv_room (Nat.le_of_ble_eq_true rfl)) dX9_markTaken_43 ⟨Nat.le_of_ble_eq_true rfl, Nat.le_of_ble_eq_true rfl⟩) hS (fun q _ h => hFc q h) hFc (fun rv u t H1 locs ht hvm hw hB hz1 hk1 hS => ?_)
        obtain ⟨rv_4, _, _, _⟩ := u
        obtain ⟨hP, hK1, hD1⟩ := hB
        rw [ht] at hP
        obtain ⟨hrv, hw⟩ := hw
        subst hrv
        have hD := hD1.weaken (fun k q _ h => hFc q.1 h)
        have hP : va_P D vwCl (cw_w C L K z r A) H1 := hP
        have hD : va_D Ad (cw_w C L K z r A) := hD
        generalize H1 = H at hP hS ⊢
        refine W.eq (g2 := F0 m 46 ls [.int (hz_i rv_4), .ref (r y0 2)]) rfl ?_
        refine lv_iload_n hx hb dX9_markTaken_46 rfl (lv_at hl 2 rfl) ?_
        have hFc := cw_free hD hS hA
        refine va_calli (va_runS (As := [.int (hz_i x3)]) (rest := [.int (hz_i rv_4), .ref (r y0 2)]) ⟨hx, hb, hml, hown, hts⟩ (k_c7_moveOf l D _ C L K z r A x3 _ hw) (va_cwS 1 hts gX9_markTaken_X7_moveOf rfl rfl rfl (by decide +kernel) ⟨Nat.le_of_ble_eq_true rfl, Nat.le_of_ble_eq_true rfl⟩) ⟨hm_blind, hm_pre hP hK hD hE⟩ rfl rfl hl.1 rfl (lv_room (Nat.le_of_ble_eq_true rfl)) dX9_markTaken_47 ⟨Nat.le_of_ble_eq_true rfl, Nat.le_of_ble_eq_true rfl⟩) hS (fun q _ h => hFc q h) hFc (fun rv u t H1 locs ht hvm hw hB hz1 hk1 hS => ?_)
        obtain ⟨rv_5, _, _, _⟩ := u
        obtain ⟨hP, hK1, hD1⟩ := hB
        rw [ht] at hP
        obtain ⟨hrv, hw⟩ := hw
        subst hrv
        have hD := hD1.weaken (fun k q _ h => hFc q.1 h)
        have hP : va_P D vwCl (cw_w C L K z r A) H1 := hP
        have hD : va_D Ad (cw_w C L K z r A) := hD
        generalize H1 = H at hP hS ⊢
        refine W.eq (g2 := F0 m 50 ls [.int (hz_i rv_5), .int (hz_i rv_4), .ref (r y0 2)]) rfl ?_
        obtain ⟨hO_6, hw⟩ := hw
        obtain ⟨h9i, hw⟩ := hw
        refine cw_ist (v := rv_5) hx hb hK hP hD hS hO_6.1 hO_6.2.2 h9i hO_6.2.1 dX9_markTaken_50 (fun H locs hP hD hS => ?_)
        obtain ⟨A_7, hA_7⟩ : ∃ y : Nat → Nat → Int, y = hz_s A (r y0 2) rv_4 rv_5 := ⟨_, rfl⟩
        rw [← hA_7] at hP hD
        have hw := hw A_7 hA_7
        refine lv_aload_n hx hb dX9_markTaken_51 rfl (lv_at hl 1 rfl) ?_
        obtain ⟨hO_8, hw⟩ := hw
        refine cw_get (ci := 7) (v := .ref (r y1 4)) hx hb hts hin7 hown hK hP hO_8.1 hO_8.2 rfl 4 (by decide) (hts (.fieldLink RX9 85 "HiddenMoves$Side" "deeds" "[I") (List.mem_cons_of_mem _ (List.mem_append_left _ (List.mem_append_left _ (List.mem_of_getElem? (i := 1) rfl))))) (fun _ h9 => h9) rfl dX9_markTaken_52 ?_
        refine lv_iload_n hx hb dX9_markTaken_55 rfl (lv_at hl 2 rfl) ?_
        have hFc := cw_free hD hS hA
        refine va_calli (va_runS (As := [.int (hz_i x3)]) (rest := [.ref (r y1 4)]) ⟨hx, hb, hml, hown, hts⟩ (k_c7_setOf l D _ C L K z r A_7 x3 _ hw) (va_cwS 1 hts gX9_markTaken_X7_setOf rfl rfl rfl (by decide +kernel) ⟨Nat.le_of_ble_eq_true rfl, Nat.le_of_ble_eq_true rfl⟩) ⟨hm_blind, hm_pre hP hK hD hE⟩ rfl rfl hl.1 rfl (lv_room (Nat.le_of_ble_eq_true rfl)) dX9_markTaken_56 ⟨Nat.le_of_ble_eq_true rfl, Nat.le_of_ble_eq_true rfl⟩) hS (fun q _ h => hFc q h) hFc (fun rv u t H1 locs ht hvm hw hB hz1 hk1 hS => ?_)
        obtain ⟨rv_9, _, _, _⟩ := u
        obtain ⟨hP, hK1, hD1⟩ := hB
        rw [ht] at hP
        obtain ⟨hrv, hw⟩ := hw
        subst hrv
        have hD := hD1.weaken (fun k q _ h => hFc q.1 h)
        have hP : va_P D vwCl (cw_w C L K z r A_7) H1 := hP
        have hD : va_D Ad (cw_w C L K z r A_7) := hD
        generalize H1 = H at hP hS ⊢
        refine W.eq (g2 := F0 m 59 ls [.int (hz_i rv_9), .ref (r y1 4)]) rfl ?_
        obtain ⟨hO_10, hw⟩ := hw
        obtain ⟨h9i, hw⟩ := hw
        refine cw_ild hx hb hK hP hO_10.1 hO_10.2.2 h9i hO_10.2.1 dX9_markTaken_59 ?_
        refine hz_topi (fun x3_11 hx3_11 => ?_)
        have hw := hw x3_11 hx3_11
        refine lv_istore_n (lv' := [(3, .int (hz_i x3_11)), (0, .ref y0), (1, .ref y1), (4, .int (hz_i x4))]) hx hb dX9_markTaken_60 rfl hl (by decide) rfl (fun ls hl => ?_)
        obtain ⟨x4_12, hx4_12⟩ : ∃ y : Int, y = x4 + 1 := ⟨_, rfl⟩
        have hw := hw x4_12 hx4_12
        refine lv_iinc (v := hz_i x4_12) (lv' := [(4, .int (hz_i x4_12)), (3, .int (hz_i x3_11)), (0, .ref y0), (1, .ref y1)]) hx hb dX9_markTaken_61 hl (k := 3) rfl (by rw [hx4_12]; exact hz_i_add _ _) (by decide) rfl (fun ls hl => ?_)
        refine lv_goto (tgt := 26) hx hb dX9_markTaken_64 (by decide) ?_
        exact (hP26 A_7 x3_11 x4_12).mp hw H locs ls hP hD hS (lv_sub hl [2, 3, 1, 0] rfl)
  have L2 : ∀ (A : Nat → Nat → Int) (x3 : Int), wp_c9_markTaken_2 L K z r A y0 y1 y2 x3  Q → ∀ (H : Heap) (locs : List Loc) (ls : Array Slot), va_P D vwCl (cw_w C L K z r A) H → va_D Ad (cw_w C L K z r A) → va_S Ad s.heap H locs → lv_has ls 5 [(0, .ref y0), (1, .ref y1), (2, .int (hz_i y2)), (3, .int (hz_i x3))] → W p l e (headSpec wsX9_markTaken ({ frames := 1, cells := 0, slots := 0, locals := 20 } : Room)).room s m (List.toArray [.ref y0, .ref y1, .int (hz_i y2)]) below meth c H locs 0 0 QQ (F0 m 2 ls []) := by
    intro A x3 hw
    obtain ⟨P2, hP2⟩ : ∃ P : (Nat → Nat → Int) → Int → Prop, ∀ (A : Nat → Nat → Int) (x3 : Int), P A x3 ↔ (∀ (H : Heap) (locs : List Loc) (ls : Array Slot), va_P D vwCl (cw_w C L K z r A) H → va_D Ad (cw_w C L K z r A) → va_S Ad s.heap H locs → lv_has ls 5 [(0, .ref y0), (1, .ref y1), (2, .int (hz_i y2)), (3, .int (hz_i x3))] → W p l e (headSpec wsX9_markTaken ({ frames := 1, cells := 0, slots := 0, locals := 20 } : Room)).room s m (List.toArray [.ref y0, .ref y1, .int (hz_i y2)]) below meth c H locs 0 0 QQ (F0 m 2 ls [])) := ⟨fun (A : Nat → Nat → Int) (x3 : Int) => ∀ (H : Heap) (locs : List Loc) (ls : Array Slot), va_P D vwCl (cw_w C L K z r A) H → va_D Ad (cw_w C L K z r A) → va_S Ad s.heap H locs → lv_has ls 5 [(0, .ref y0), (1, .ref y1), (2, .int (hz_i y2)), (3, .int (hz_i x3))] → W p l e (headSpec wsX9_markTaken ({ frames := 1, cells := 0, slots := 0, locals := 20 } : Room)).room s m (List.toArray [.ref y0, .ref y1, .int (hz_i y2)]) below meth c H locs 0 0 QQ (F0 m 2 ls []), fun _ _ => Iff.rfl⟩
    refine (hP2 A x3).mp (hw P2 ?_)
    intro A x3 hw
    refine (hP2 A x3).mpr ?_
    intro H locs ls hP hD hS hl
    refine lv_iload_n hx hb dX9_markTaken_2 rfl (lv_at hl 3 rfl) ?_
    refine lv_bipush (v := hz_i 10) hx hb dX9_markTaken_3 (by decide +kernel) ?_
    obtain ⟨h9a, hw⟩ := hw
    refine hz_icmp_ge (tgt := 21) hx hb dX9_markTaken_5 (by decide) h9a ⟨by decide, by decide⟩ (fun c_13 => ?_) (fun c_13 => ?_)
    · have hw := hw.1 c_13
      refine lv_iload_n hx hb dX9_markTaken_21 rfl (lv_at hl 2 rfl) ?_
      refine lv_istore_n (lv' := [(3, .int (hz_i y2)), (0, .ref y0), (1, .ref y1), (2, .int (hz_i y2))]) hx hb dX9_markTaken_22 rfl hl (by decide) rfl (fun ls hl => ?_)
      refine lv_iconst (v := hz_i 0) hx hb dX9_markTaken_23 (by decide +kernel) ?_
      refine lv_istore (lv' := [(4, .int (hz_i 0)), (3, .int (hz_i y2)), (0, .ref y0), (1, .ref y1), (2, .int (hz_i y2))]) hx hb dX9_markTaken_24 hl (by decide) rfl (fun ls hl => ?_)
      exact L26 A y2 0 hw H locs ls hP hD hS (lv_sub hl [2, 3, 1, 0] rfl)
    · have hw := hw.2 c_13
      refine lv_aload_n hx hb dX9_markTaken_8 rfl (lv_at hl 0 rfl) ?_
      obtain ⟨hO_14, hw⟩ := hw
      refine cw_get (ci := 9) (v := .ref (r y0 2)) hx hb hts hin9 hown hK hP hO_14.1 hO_14.2 rfl 2 (by decide) (hts (.fieldLink RX9 18 "HiddenMoves$Way" "taken" "[I") (List.mem_cons_of_mem _ (List.mem_append_left _ (List.mem_append_left _ (List.mem_of_getElem? (i := 0) rfl))))) (fun _ h9 => h9) rfl dX9_markTaken_9 ?_
      refine lv_iload_n hx hb dX9_markTaken_12 rfl (lv_at hl 3 rfl) ?_
      refine lv_iconst (v := hz_i (-1)) hx hb dX9_markTaken_13 (by decide +kernel) ?_
      obtain ⟨hO_15, hw⟩ := hw
      obtain ⟨h9i, hw⟩ := hw
      refine cw_ist (v := (-1)) hx hb hK hP hD hS hO_15.1 hO_15.2.2 h9i hO_15.2.1 dX9_markTaken_14 (fun H locs hP hD hS => ?_)
      obtain ⟨A_16, hA_16⟩ : ∃ y : Nat → Nat → Int, y = hz_s A (r y0 2) x3 (-1) := ⟨_, rfl⟩
      rw [← hA_16] at hP hD
      have hw := hw A_16 hA_16
      obtain ⟨x3_17, hx3_17⟩ : ∃ y : Int, y = x3 + 1 := ⟨_, rfl⟩
      have hw := hw x3_17 hx3_17
      refine lv_iinc (v := hz_i x3_17) (lv' := [(3, .int (hz_i x3_17)), (0, .ref y0), (1, .ref y1), (2, .int (hz_i y2))]) hx hb dX9_markTaken_15 hl (k := 3) rfl (by rw [hx3_17]; exact hz_i_add _ _) (by decide) rfl (fun ls hl => ?_)
      refine lv_goto (tgt := 2) hx hb dX9_markTaken_18 (by decide) ?_
      exact (hP2 A_16 x3_17).mp hw H locs ls hP hD hS (lv_sub hl [1, 2, 3, 0] rfl)
  have hP := hP0; have hD := hD0; have hS := hS0; have hl := hl0; have hw := hw0
  obtain ⟨H, hH⟩ : ∃ H : Heap, H = s.heap := ⟨_, rfl⟩
  obtain ⟨locs, hlocs⟩ : ∃ L : List Loc, L = [] := ⟨_, rfl⟩
  rw [← hH] at hP
  have hS : va_S Ad s.heap H locs := by rw [hH, hlocs]; exact hS
  refine mw_HL hH hlocs ?_
  refine lv_iconst (v := hz_i 0) hx hb dX9_markTaken_0 (by decide +kernel) ?_
  refine lv_istore_n (lv' := [(3, .int (hz_i 0)), (0, .ref y0), (1, .ref y1), (2, .int (hz_i y2))]) hx hb dX9_markTaken_1 rfl hl (by decide) rfl (fun ls hl => ?_)
  exact L2 A 0 hw H locs ls hP hD hS (lv_sub hl [1, 2, 3, 0] rfl)

noncomputable def wp_c9_spreadLine_64 (L : List Nat) (K : Nat → cw_K) (z : Nat → Nat → Int) (r : Nat → Nat → Nat) (A : Nat → Nat → Int) (y0 : Nat) (y1 : Nat) (y3 : Nat) (x4 : Int) (t0 : Int) (t1 : Nat) (P14 : (Nat → Nat → Int) → (Nat → Nat → Int) → Int → Prop) (Q : (Nat → Nat → Int) → (Nat → Nat → Int) → Prop) : Prop := cw_O L K 0 t1 ∧ wp_c0_scale L K z r A t1 t0 (fun z_2 A_3 => ∀ x4_5 : Int, x4_5 = x4 + 1 → P14 z_2 A_3 x4_5)
noncomputable def wp_c9_spreadLine_14 (L : List Nat) (K : Nat → cw_K) (z : Nat → Nat → Int) (r : Nat → Nat → Nat) (A : Nat → Nat → Int) (y0 : Nat) (y1 : Nat) (y3 : Nat) (x4 : Int) (Q : (Nat → Nat → Int) → (Nat → Nat → Int) → Prop) : Prop := ∀ P14 : (Nat → Nat → Int) → (Nat → Nat → Int) → Int → Prop, (∀ (z : Nat → Nat → Int) (A : Nat → Nat → Int) (x4 : Int), cw_O L K 7 y1 ∧ hz_rI x4 ∧ hz_rI (z y1 0) ∧ ((z y1 0 ≤ x4 → Q z A) ∧ (¬ (z y1 0 ≤ x4) → cw_O L K 9 y0 ∧ wp_c9_bottomOf L K z r A y0 y1 x4 (fun rv_8 => cw_A L K 0 (r y0 2) ∧ ((0 : Int) ≤ x4 ∧ x4 < (cw_n K (r y0 2) : Int)) ∧ hz_rI (A (r y0 2) (x4.toNat)) ∧ ((¬ A (r y0 2) (x4.toNat) = (-1) → ((0 : Int) ≤ x4 ∧ x4 < (cw_n K (r y0 2) : Int)) ∧ wp_c9_topOf L K z r A y0 x4 (A (r y0 2) (x4.toNat)) rv_8 (fun rv_12 => wp_c9_spreadLine_64 L K z r A y0 y1 y3 x4 rv_12 y3 P14 Q)) ∧ (A (r y0 2) (x4.toNat) = (-1) → wp_c9_spreadLine_64 L K z r A y0 y1 y3 x4 rv_8 y3 P14 Q))))) → P14 z A x4) → P14 z A x4
noncomputable def wp_c9_spreadLine (L : List Nat) (K : Nat → cw_K) (z : Nat → Nat → Int) (r : Nat → Nat → Nat) (A : Nat → Nat → Int) (y0 : Nat) (y1 : Nat) (y2 : Int) (y3 : Nat) (Q : (Nat → Nat → Int) → (Nat → Nat → Int) → Prop) : Prop := cw_O L K 9 y0 ∧ wp_c9_markTaken L K z r A y0 y1 y2 (fun A_14 => cw_O L K 0 y3 ∧ wp_c0_put L K z r A_14 y3 1 (fun z_17 A_18 => wp_c9_spreadLine_14 L K z_17 r A_18 y0 y1 y3 0  Q))
set_option maxHeartbeats 4000000 in
set_option maxRecDepth 100000 in
theorem k_c9_spreadLine (l : Launch) (D : va_G) (sz : Nat) (C : Nat → ClassId) (L : List Nat) (K : Nat → cw_K) (z : Nat → Nat → Int) (r : Nat → Nat → Nat) (A : Nat → Nat → Int) (y0 : Nat) (y1 : Nat) (y2 : Int) (y3 : Nat) (Q : (Nat → Nat → Int) → (Nat → Nat → Int) → Prop) (hw : wp_c9_spreadLine L K z r A y0 y1 y2 y3 Q) : Met l yX9_spreadLine wsX9_spreadLine ({ frames := 4, cells := 0, slots := 0, locals := 98 } : Room) (va_Pc [.ref y0, .ref y1, .int (hz_i y2), .ref y3] (hm_P D (cw_w C L K z r A) (cw_t C) sz)) (va_Qv (S := Int × (Nat → Nat → Int) × (Nat → Nat → Nat) × (Nat → Nat → Int)) (fun u => Q u.2.1 u.2.2.2) (fun u t => hm_B D (va_A (cw_w C L K z r A) sz) (cw_w C L K u.2.1 r u.2.2.2) (cw_t C) t) (va_A (cw_w C L K z r A) sz)) 0 0 (va_A (cw_w C L K z r A) sz) := by
  refine Met.ofW (cc := cX9_spreadLine) (maxL := 7) (ret := none) (by decide) rfl ?_
  intro p e s m args below meth c s₁ B hml hv
  obtain ⟨rfl, hsz, hP, hK, hD0, hE⟩ := hv
  have hx := B.exec
  have hb := B.bytes
  have hr := B.returns
  have hts := atoms_spec (ws := wsX9_spreadLine) B.pre
  have hown : s.vm.findClass RX9 = some m.cls := findClass_of_methodNamed B.named
  have hlocks := B.notSynchronized
  have hin7 : ∀ w ∈ u_ws RX7 TX7 8, w ∈ wsX9_spreadLine := fun w h => List.mem_cons_of_mem _ (List.mem_append_left _ (List.mem_append_left _ (List.mem_append_right _ (h))))
  have hin9 : ∀ w ∈ u_ws RX9 TX9 3, w ∈ wsX9_spreadLine := fun w h => List.mem_cons_of_mem _ (List.mem_append_left _ (List.mem_append_right _ (h)))
  subst hsz
  have hD := hD0.self (sz := s.heap.size)
  generalize hAe : va_A (cw_w C L K z r A) s.heap.size = Ad at hD ⊢
  have hA : ∀ q : Nat, s.heap.size ≤ q → Ad q := fun q h => by rw [← hAe]; exact Or.inr h
  have hS : va_S Ad s.heap s.heap [] := va_S.rf
  have hl := lv_entry ([.ref y0, .ref y1, .int (hz_i y2), .ref y3]) (n := 7) (Nat.le_of_ble_eq_true rfl)
  rw [lg_entry_eq]
  generalize (lg_sl ([.ref y0, .ref y1, .int (hz_i y2), .ref y3]) ++ List.replicate (7 - (lg_sl ([.ref y0, .ref y1, .int (hz_i y2), .ref y3])).length) Slot.unset).toArray = ls at hl ⊢
  have hl : lv_has ls 7 [(0, .ref y0), (1, .ref y1), (2, .int (hz_i y2)), (3, .ref y3)] := hl
  refine mw_Q (fun QQ hQQ => ?_)
  have hP0 := hP; have hD0 := hD; have hS0 := hS; have hl0 := hl; have hw0 := hw
  clear hP hD hS hl hw
  have L14 : ∀ (z : Nat → Nat → Int) (A : Nat → Nat → Int) (x4 : Int), wp_c9_spreadLine_14 L K z r A y0 y1 y3 x4  Q → ∀ (H : Heap) (locs : List Loc) (ls : Array Slot), va_P D vwCl (cw_w C L K z r A) H → va_D Ad (cw_w C L K z r A) → va_S Ad s.heap H locs → lv_has ls 7 [(0, .ref y0), (1, .ref y1), (3, .ref y3), (4, .int (hz_i x4))] → W p l e (headSpec wsX9_spreadLine ({ frames := 4, cells := 0, slots := 0, locals := 98 } : Room)).room s m (List.toArray [.ref y0, .ref y1, .int (hz_i y2), .ref y3]) below meth c H locs 0 0 QQ (F0 m 14 ls []) := by
    intro z A x4 hw
    obtain ⟨P14, hP14⟩ : ∃ P : (Nat → Nat → Int) → (Nat → Nat → Int) → Int → Prop, ∀ (z : Nat → Nat → Int) (A : Nat → Nat → Int) (x4 : Int), P z A x4 ↔ (∀ (H : Heap) (locs : List Loc) (ls : Array Slot), va_P D vwCl (cw_w C L K z r A) H → va_D Ad (cw_w C L K z r A) → va_S Ad s.heap H locs → lv_has ls 7 [(0, .ref y0), (1, .ref y1), (3, .ref y3), (4, .int (hz_i x4))] → W p l e (headSpec wsX9_spreadLine ({ frames := 4, cells := 0, slots := 0, locals := 98 } : Room)).room s m (List.toArray [.ref y0, .ref y1, .int (hz_i y2), .ref y3]) below meth c H locs 0 0 QQ (F0 m 14 ls [])) := ⟨fun (z : Nat → Nat → Int) (A : Nat → Nat → Int) (x4 : Int) => ∀ (H : Heap) (locs : List Loc) (ls : Array Slot), va_P D vwCl (cw_w C L K z r A) H → va_D Ad (cw_w C L K z r A) → va_S Ad s.heap H locs → lv_has ls 7 [(0, .ref y0), (1, .ref y1), (3, .ref y3), (4, .int (hz_i x4))] → W p l e (headSpec wsX9_spreadLine ({ frames := 4, cells := 0, slots := 0, locals := 98 } : Room)).room s m (List.toArray [.ref y0, .ref y1, .int (hz_i y2), .ref y3]) below meth c H locs 0 0 QQ (F0 m 14 ls []), fun _ _ _ => Iff.rfl⟩
    refine (hP14 z A x4).mp (hw P14 ?_)
    intro z A x4 hw
    refine (hP14 z A x4).mpr ?_
    intro H locs ls hP hD hS hl
    have L64 : ∀ (z : Nat → Nat → Int) (A : Nat → Nat → Int) (x4 : Int) (t0 : Int) (t1 : Nat), wp_c9_spreadLine_64 L K z r A y0 y1 y3 x4 t0 t1 P14 Q → ∀ (H : Heap) (locs : List Loc) (ls : Array Slot), va_P D vwCl (cw_w C L K z r A) H → va_D Ad (cw_w C L K z r A) → va_S Ad s.heap H locs → lv_has ls 7 [(0, .ref y0), (1, .ref y1), (3, .ref y3), (4, .int (hz_i x4))] → W p l e (headSpec wsX9_spreadLine ({ frames := 4, cells := 0, slots := 0, locals := 98 } : Room)).room s m (List.toArray [.ref y0, .ref y1, .int (hz_i y2), .ref y3]) below meth c H locs 0 0 QQ (F0 m 64 ls [.long (hz_l t0), .ref t1]) := by
      intro z A x4 t0 t1 hw H locs ls hP hD hS hl
      obtain ⟨hO_4, hw⟩ := hw
      have hFc := cw_free hD hS hA
      obtain ⟨q9, hq9⟩ := cw_at (C := C) (z := z) (r := r) (A := A) hO_4.1 hO_4.2
      refine va_callv (va_runV (As := [.long (hz_l t0)]) (rest := []) ⟨hx, hb, hml, hown, hts⟩ (k_c0_scale l D _ C L K z r A t1 t0 _ hw) (cwV 1 hts gX9_spreadLine_X0_scale rfl rfl rfl (by decide +kernel) ⟨Nat.le_of_ble_eq_true rfl, Nat.le_of_ble_eq_true rfl⟩) ⟨hm_blind, va_recv hK hP (ci := 0) (q0 := q9) rfl hq9, hm_pre hP hK hD hE⟩ rfl rfl hl.1 rfl (lv_room (Nat.le_of_ble_eq_true rfl)) dX9_spreadLine_64 ⟨Nat.le_of_ble_eq_true rfl, Nat.le_of_ble_eq_true rfl⟩) hS (fun q _ h => hFc q h) hFc (fun u t H1 locs ht hvm hw hB hz1 hk1 hS => ?_)
      obtain ⟨rv_1, z_2, _, A_3⟩ := u
      obtain ⟨hP, hK1, hD1⟩ := hB
      rw [ht] at hP
      have hD := hD1.weaken (fun k q _ h => hFc q.1 h)
      have hP : va_P D vwCl (cw_w C L K z_2 r A_3) H1 := hP
      have hD : va_D Ad (cw_w C L K z_2 r A_3) := hD
      generalize H1 = H at hP hS ⊢
      refine W.eq (g2 := F0 m 67 ls []) rfl ?_
      obtain ⟨x4_5, hx4_5⟩ : ∃ y : Int, y = x4 + 1 := ⟨_, rfl⟩
      have hw := hw x4_5 hx4_5
      refine lv_iinc (v := hz_i x4_5) (lv' := [(4, .int (hz_i x4_5)), (0, .ref y0), (1, .ref y1), (3, .ref y3)]) hx hb dX9_spreadLine_67 hl (k := 3) rfl (by rw [hx4_5]; exact hz_i_add _ _) (by decide) rfl (fun ls hl => ?_)
      refine lv_goto (tgt := 14) hx hb dX9_spreadLine_70 (by decide) ?_
      exact (hP14 z_2 A_3 x4_5).mp hw H locs ls hP hD hS (lv_sub hl [1, 2, 3, 0] rfl)
    refine lv_iload hx hb dX9_spreadLine_14 (lv_at hl 3 rfl) ?_
    refine lv_aload_n hx hb dX9_spreadLine_16 rfl (lv_at hl 1 rfl) ?_
    obtain ⟨hO_6, hw⟩ := hw
    refine cw_get (ci := 7) (v := .int (hz_i (z y1 0))) hx hb hts hin7 hown hK hP hO_6.1 hO_6.2 rfl 0 (by decide) (hts (.fieldLink RX9 28 "HiddenMoves$Side" "sets" "I") (List.mem_cons_of_mem _ (List.mem_append_left _ (List.mem_append_left _ (List.mem_append_left _ (List.mem_append_left _ (List.mem_of_getElem? (i := 0) rfl))))))) (fun _ h9 => h9) rfl dX9_spreadLine_17 ?_
    obtain ⟨h9a, hw⟩ := hw
    obtain ⟨h9b, hw⟩ := hw
    refine hz_icmp_ge (tgt := 73) hx hb dX9_spreadLine_20 (by decide) h9a h9b (fun c_7 => ?_) (fun c_7 => ?_)
    · have hw := hw.1 c_7
      subst hQQ
      subst hAe
      exact W.vret hx hb hr (fun t ht hW => ⟨⟨(0, z, r, A), rfl, hw, by rw [ht]; exact hP, va_K.moved hW.alike hK, hD⟩, hS.F ht⟩) hS.2.2 dX9_spreadLine_73
    · have hw := hw.2 c_7
      refine lv_aload_n hx hb dX9_spreadLine_23 rfl (lv_at hl 0 rfl) ?_
      refine lv_aload_n hx hb dX9_spreadLine_24 rfl (lv_at hl 1 rfl) ?_
      refine lv_iload hx hb dX9_spreadLine_25 (lv_at hl 3 rfl) ?_
      obtain ⟨hO_9, hw⟩ := hw
      have hFc := cw_free hD hS hA
      obtain ⟨q9, hq9⟩ := cw_at (C := C) (z := z) (r := r) (A := A) hO_9.1 hO_9.2
      refine va_calll (va_runV (As := [.ref y1, .int (hz_i x4)]) (rest := []) ⟨hx, hb, hml, hown, hts⟩ (k_c9_bottomOf l D _ C L K z r A y0 y1 x4 _ hw) (cwV 2 hts gX9_spreadLine_X9_bottomOf rfl rfl rfl (by decide +kernel) ⟨Nat.le_of_ble_eq_true rfl, Nat.le_of_ble_eq_true rfl⟩) ⟨hm_blind, va_recv hK hP (ci := 9) (q0 := q9) rfl hq9, hm_pre hP hK hD hE⟩ rfl rfl hl.1 rfl (lv_room (Nat.le_of_ble_eq_true rfl)) dX9_spreadLine_27 ⟨Nat.le_of_ble_eq_true rfl, Nat.le_of_ble_eq_true rfl⟩) hS (fun q _ h => hFc q h) hFc (fun rv u t H1 locs ht hvm hw hB hz1 hk1 hS => ?_)
      obtain ⟨rv_8, _, _, _⟩ := u
      obtain ⟨hP, hK1, hD1⟩ := hB
      rw [ht] at hP
      obtain ⟨hrv, hw⟩ := hw
      subst hrv
      have hD := hD1.weaken (fun k q _ h => hFc q.1 h)
      have hP : va_P D vwCl (cw_w C L K z r A) H1 := hP
      have hD : va_D Ad (cw_w C L K z r A) := hD
      generalize H1 = H at hP hS ⊢
      refine W.eq (g2 := F0 m 30 ls [.long (hz_l rv_8)]) rfl ?_
      refine lv_lstore (lv' := [(5, .long (hz_l rv_8)), (0, .ref y0), (1, .ref y1), (3, .ref y3), (4, .int (hz_i x4))]) hx hb dX9_spreadLine_30 hl (by decide) rfl (fun ls hl => ?_)
      refine lv_aload_n hx hb dX9_spreadLine_32 rfl (lv_at hl 3 rfl) ?_
      refine lv_aload_n hx hb dX9_spreadLine_33 rfl (lv_at hl 1 rfl) ?_
      refine cw_get (ci := 9) (v := .ref (r y0 2)) hx hb hts hin9 hown hK hP hO_9.1 hO_9.2 rfl 2 (by decide) (hts (.fieldLink RX9 18 "HiddenMoves$Way" "taken" "[I") (List.mem_cons_of_mem _ (List.mem_append_left _ (List.mem_append_left _ (List.mem_append_left _ (List.mem_append_left _ (List.mem_of_getElem? (i := 1) rfl))))))) (fun _ h9 => h9) rfl dX9_spreadLine_34 ?_
      refine lv_iload hx hb dX9_spreadLine_37 (lv_at hl 4 rfl) ?_
      obtain ⟨hO_10, hw⟩ := hw
      obtain ⟨h9i, hw⟩ := hw
      refine cw_ild hx hb hK hP hO_10.1 hO_10.2.2 h9i hO_10.2.1 dX9_spreadLine_39 ?_
      refine lv_iconst (v := hz_i (-1)) hx hb dX9_spreadLine_40 (by decide +kernel) ?_
      obtain ⟨h9a, hw⟩ := hw
      refine hz_icmp_ne (tgt := 49) hx hb dX9_spreadLine_41 (by decide) h9a ⟨by decide, by decide⟩ (fun c_11 => ?_) (fun c_11 => ?_)
      · have hw := hw.1 c_11
        refine lv_aload_n hx hb dX9_spreadLine_49 rfl (lv_at hl 1 rfl) ?_
        refine lv_iload hx hb dX9_spreadLine_50 (lv_at hl 4 rfl) ?_
        refine lv_aload_n hx hb dX9_spreadLine_52 rfl (lv_at hl 1 rfl) ?_
        refine cw_get (ci := 9) (v := .ref (r y0 2)) hx hb hts hin9 hown hK hP hO_9.1 hO_9.2 rfl 2 (by decide) (hts (.fieldLink RX9 18 "HiddenMoves$Way" "taken" "[I") (List.mem_cons_of_mem _ (List.mem_append_left _ (List.mem_append_left _ (List.mem_append_left _ (List.mem_append_left _ (List.mem_of_getElem? (i := 1) rfl))))))) (fun _ h9 => h9) rfl dX9_spreadLine_53 ?_
        refine lv_iload hx hb dX9_spreadLine_56 (lv_at hl 4 rfl) ?_
        obtain ⟨h9i, hw⟩ := hw
        refine cw_ild hx hb hK hP hO_10.1 hO_10.2.2 h9i hO_10.2.1 dX9_spreadLine_58 ?_
        refine lv_lload hx hb dX9_spreadLine_59 (lv_at hl 0 rfl) ?_
        have hFc := cw_free hD hS hA
        obtain ⟨q9, hq9⟩ := cw_at (C := C) (z := z) (r := r) (A := A) hO_9.1 hO_9.2
        refine va_calll (va_runV (As := [.int (hz_i x4), .int (hz_i (A (r y0 2) (x4.toNat))), .long (hz_l rv_8)]) (rest := [.ref y3]) ⟨hx, hb, hml, hown, hts⟩ (k_c9_topOf l D _ C L K z r A y0 x4 (A (r y0 2) (x4.toNat)) rv_8 _ hw) (cwV 3 hts gX9_spreadLine_X9_topOf rfl rfl rfl (by decide +kernel) ⟨Nat.le_of_ble_eq_true rfl, Nat.le_of_ble_eq_true rfl⟩) ⟨hm_blind, va_recv hK hP (ci := 9) (q0 := q9) rfl hq9, hm_pre hP hK hD hE⟩ rfl rfl hl.1 rfl (lv_room (Nat.le_of_ble_eq_true rfl)) dX9_spreadLine_61 ⟨Nat.le_of_ble_eq_true rfl, Nat.le_of_ble_eq_true rfl⟩) hS (fun q _ h => hFc q h) hFc (fun rv u t H1 locs ht hvm hw hB hz1 hk1 hS => ?_)
        obtain ⟨rv_12, _, _, _⟩ := u
        obtain ⟨hP, hK1, hD1⟩ := hB
        rw [ht] at hP
        obtain ⟨hrv, hw⟩ := hw
        subst hrv
        have hD := hD1.weaken (fun k q _ h => hFc q.1 h)
        have hP : va_P D vwCl (cw_w C L K z r A) H1 := hP
        have hD : va_D Ad (cw_w C L K z r A) := hD
        generalize H1 = H at hP hS ⊢
        refine W.eq (g2 := F0 m 64 ls [.long (hz_l rv_12), .ref y3]) rfl ?_
        exact L64 z A x4 rv_12 y3 hw H locs ls hP hD hS (lv_sub hl [1, 2, 3, 4] rfl)
      · have hw := hw.2 c_11
        refine lv_lload hx hb dX9_spreadLine_44 (lv_at hl 0 rfl) ?_
        refine lv_goto (tgt := 64) hx hb dX9_spreadLine_46 (by decide) ?_
        exact L64 z A x4 rv_8 y3 hw H locs ls hP hD hS (lv_sub hl [1, 2, 3, 4] rfl)
  have hP := hP0; have hD := hD0; have hS := hS0; have hl := hl0; have hw := hw0
  obtain ⟨H, hH⟩ : ∃ H : Heap, H = s.heap := ⟨_, rfl⟩
  obtain ⟨locs, hlocs⟩ : ∃ L : List Loc, L = [] := ⟨_, rfl⟩
  rw [← hH] at hP
  have hS : va_S Ad s.heap H locs := by rw [hH, hlocs]; exact hS
  refine mw_HL hH hlocs ?_
  refine lv_aload_n hx hb dX9_spreadLine_0 rfl (lv_at hl 0 rfl) ?_
  refine lv_aload_n hx hb dX9_spreadLine_1 rfl (lv_at hl 1 rfl) ?_
  refine lv_iload_n hx hb dX9_spreadLine_2 rfl (lv_at hl 2 rfl) ?_
  obtain ⟨hO_15, hw⟩ := hw
  have hFc := cw_free hD hS hA
  obtain ⟨q9, hq9⟩ := cw_at (C := C) (z := z) (r := r) (A := A) hO_15.1 hO_15.2
  refine va_callv (va_runV (As := [.ref y1, .int (hz_i y2)]) (rest := []) ⟨hx, hb, hml, hown, hts⟩ (k_c9_markTaken l D _ C L K z r A y0 y1 y2 _ hw) (cwV 2 hts gX9_spreadLine_X9_markTaken rfl rfl rfl (by decide +kernel) ⟨Nat.le_of_ble_eq_true rfl, Nat.le_of_ble_eq_true rfl⟩) ⟨hm_blind, va_recv hK hP (ci := 9) (q0 := q9) rfl hq9, hm_pre hP hK hD hE⟩ rfl rfl hl.1 rfl (lv_room (Nat.le_of_ble_eq_true rfl)) dX9_spreadLine_3 ⟨Nat.le_of_ble_eq_true rfl, Nat.le_of_ble_eq_true rfl⟩) hS (fun q _ h => hFc q h) hFc (fun u t H1 locs ht hvm hw hB hz1 hk1 hS => ?_)
  obtain ⟨rv_13, _, _, A_14⟩ := u
  obtain ⟨hP, hK1, hD1⟩ := hB
  rw [ht] at hP
  have hD := hD1.weaken (fun k q _ h => hFc q.1 h)
  have hP : va_P D vwCl (cw_w C L K z r A_14) H1 := hP
  have hD : va_D Ad (cw_w C L K z r A_14) := hD
  generalize H1 = H at hP hS ⊢
  refine W.eq (g2 := F0 m 6 ls []) rfl ?_
  refine lv_aload_n hx hb dX9_spreadLine_6 rfl (lv_at hl 3 rfl) ?_
  refine lv_lconst (v := hz_l 1) hx hb dX9_spreadLine_7 (by decide +kernel) ?_
  obtain ⟨hO_19, hw⟩ := hw
  have hFc := cw_free hD hS hA
  obtain ⟨q9, hq9⟩ := cw_at (C := C) (z := z) (r := r) (A := A_14) hO_19.1 hO_19.2
  refine va_callv (va_runV (As := [.long (hz_l 1)]) (rest := []) ⟨hx, hb, hml, hown, hts⟩ (k_c0_put l D _ C L K z r A_14 y3 1 _ hw) (cwV 1 hts gX9_spreadLine_X0_put rfl rfl rfl (by decide +kernel) ⟨Nat.le_of_ble_eq_true rfl, Nat.le_of_ble_eq_true rfl⟩) ⟨hm_blind, va_recv hK hP (ci := 0) (q0 := q9) rfl hq9, hm_pre hP hK hD hE⟩ rfl rfl hl.1 rfl (lv_room (Nat.le_of_ble_eq_true rfl)) dX9_spreadLine_8 ⟨Nat.le_of_ble_eq_true rfl, Nat.le_of_ble_eq_true rfl⟩) hS (fun q _ h => hFc q h) hFc (fun u t H1 locs ht hvm hw hB hz1 hk1 hS => ?_)
  obtain ⟨rv_16, z_17, _, A_18⟩ := u
  obtain ⟨hP, hK1, hD1⟩ := hB
  rw [ht] at hP
  have hD := hD1.weaken (fun k q _ h => hFc q.1 h)
  have hP : va_P D vwCl (cw_w C L K z_17 r A_18) H1 := hP
  have hD : va_D Ad (cw_w C L K z_17 r A_18) := hD
  generalize H1 = H at hP hS ⊢
  refine W.eq (g2 := F0 m 11 ls []) rfl ?_
  refine lv_iconst (v := hz_i 0) hx hb dX9_spreadLine_11 (by decide +kernel) ?_
  refine lv_istore (lv' := [(4, .int (hz_i 0)), (0, .ref y0), (1, .ref y1), (2, .int (hz_i y2)), (3, .ref y3)]) hx hb dX9_spreadLine_12 hl (by decide) rfl (fun ls hl => ?_)
  exact L14 z_17 A_18 0 hw H locs ls hP hD hS (lv_sub hl [1, 2, 4, 0] rfl)

noncomputable def wp_c7_deed (L : List Nat) (K : Nat → cw_K) (z : Nat → Nat → Int) (r : Nat → Nat → Nat) (A : Nat → Nat → Int) (y0 : Int) (y1 : Int) (Q : Int → Prop) : Prop := ∀ x9_1 : Int, hz_rI x9_1 → x9_1 % 4294967296 = ((y0 * 512) + y1) % 4294967296 → Q x9_1
set_option maxHeartbeats 4000000 in
set_option maxRecDepth 100000 in
theorem k_c7_deed (l : Launch) (D : va_G) (sz : Nat) (C : Nat → ClassId) (L : List Nat) (K : Nat → cw_K) (z : Nat → Nat → Int) (r : Nat → Nat → Nat) (A : Nat → Nat → Int) (y0 : Int) (y1 : Int) (Q : Int → Prop) (hw : wp_c7_deed L K z r A y0 y1 Q) : Met l yX7_deed wsX7_deed ({ frames := 0, cells := 0, slots := 0, locals := 0 } : Room) (va_Pc [.int (hz_i y0), .int (hz_i y1)] (hm_P D (cw_w C L K z r A) (cw_t C) sz)) (va_Qi (S := Int × (Nat → Nat → Int) × (Nat → Nat → Nat) × (Nat → Nat → Int)) (fun r u => r = hz_i u.1 ∧ Q u.1) (fun u t => hm_B D (va_A (cw_w C L K z r A) sz) (cw_w C L K z r A) (cw_t C) t) (va_A (cw_w C L K z r A) sz)) 0 0 (va_A (cw_w C L K z r A) sz) := by
  refine Met.ofW (cc := cX7_deed) (maxL := 2) (ret := (some .int)) (by decide) rfl ?_
  intro p e s m args below meth c s₁ B hml hv
  obtain ⟨rfl, hsz, hP, hK, hD0, hE⟩ := hv
  have hx := B.exec
  have hb := B.bytes
  have hr := B.returns
  have hts := atoms_spec (ws := wsX7_deed) B.pre
  have hown : s.vm.findClass RX7 = some m.cls := findClass_of_methodNamed B.named
  have hlocks := B.notSynchronized
  subst hsz
  have hD := hD0.self (sz := s.heap.size)
  generalize hAe : va_A (cw_w C L K z r A) s.heap.size = Ad at hD ⊢
  have hA : ∀ q : Nat, s.heap.size ≤ q → Ad q := fun q h => by rw [← hAe]; exact Or.inr h
  have hS : va_S Ad s.heap s.heap [] := va_S.rf
  have hl := lv_entry ([.int (hz_i y0), .int (hz_i y1)]) (n := 2) (Nat.le_of_ble_eq_true rfl)
  rw [lg_entry_eq]
  generalize (lg_sl ([.int (hz_i y0), .int (hz_i y1)]) ++ List.replicate (2 - (lg_sl ([.int (hz_i y0), .int (hz_i y1)])).length) Slot.unset).toArray = ls at hl ⊢
  have hl : lv_has ls 2 [(0, .int (hz_i y0)), (1, .int (hz_i y1))] := hl
  refine mw_Q (fun QQ hQQ => ?_)
  have hP0 := hP; have hD0 := hD; have hS0 := hS; have hl0 := hl; have hw0 := hw
  clear hP hD hS hl hw
  have hP := hP0; have hD := hD0; have hS := hS0; have hl := hl0; have hw := hw0
  obtain ⟨H, hH⟩ : ∃ H : Heap, H = s.heap := ⟨_, rfl⟩
  obtain ⟨locs, hlocs⟩ : ∃ L : List Loc, L = [] := ⟨_, rfl⟩
  rw [← hH] at hP
  have hS : va_S Ad s.heap H locs := by rw [hH, hlocs]; exact hS
  refine mw_HL hH hlocs ?_
  refine lv_iload_n hx hb dX7_deed_0 rfl (lv_at hl 0 rfl) ?_
  refine lv_sipush (v := hz_i 512) hx hb dX7_deed_1 (by decide +kernel) ?_
  refine hz_imul hx hb dX7_deed_4 ?_
  refine lv_iload_n hx hb dX7_deed_5 rfl (lv_at hl 1 rfl) ?_
  refine hz_iadd hx hb dX7_deed_6 ?_
  refine cw_nri (fun x9_1 hx9_1a hx9_1b => ?_)
  have hw := hw x9_1 hx9_1a hx9_1b
  subst hQQ
  subst hAe
  exact W.iret (v := hz_i x9_1) hx hb hr (fun t ht hW => ⟨⟨hz_i x9_1, (x9_1, z, r, A), rfl, ⟨rfl, hw⟩, by rw [ht]; exact hP, va_K.moved hW.alike hK, hD⟩, hS.F ht⟩) hS.2.2 dX7_deed_7

noncomputable def wp_c9_spread_25 (L : List Nat) (K : Nat → cw_K) (z : Nat → Nat → Int) (r : Nat → Nat → Nat) (A : Nat → Nat → Int) (y0 : Nat) (y1 : Nat) (y2 : Nat) (x3 : Int) (x4 : Int) (P14 : (Nat → Nat → Int) → (Nat → Nat → Int) → Int → Prop) (Q : (Nat → Nat → Int) → (Nat → Nat → Int) → Prop) : Prop := ∀ P25 : (Nat → Nat → Int) → (Nat → Nat → Int) → Int → Prop, (∀ (z : Nat → Nat → Int) (A : Nat → Nat → Int) (x4 : Int), cw_O L K 7 y1 ∧ cw_A L K 0 (r y1 2) ∧ ((0 : Int) ≤ x3 ∧ x3 < (cw_n K (r y1 2) : Int)) ∧ hz_rI x4 ∧ hz_rI (A (r y1 2) (x3.toNat)) ∧ ((A (r y1 2) (x3.toNat) ≤ x4 → ∀ x3_4 : Int, x3_4 = x3 + 1 → P14 z A x3_4) ∧ (¬ (A (r y1 2) (x3.toNat) ≤ x4) → wp_c7_deed L K z r A x3 x4 (fun rv_5 => cw_O L K 3 y2 ∧ cw_A L K 0 (r y1 6) ∧ ((0 : Int) ≤ x3 ∧ x3 < (cw_n K (r y1 6) : Int)) ∧ cw_G L K 4 (r y2 0) ∧ ((0 : Int) ≤ (A (r y1 6) (x3.toNat)) + x4 ∧ (A (r y1 6) (x3.toNat)) + x4 < (cw_n K (r y2 0) : Int)) ∧ cw_O L K 9 y0 ∧ wp_c9_spreadLine L K z r A y0 y1 rv_5 (cw_g K (r y2 0) (((A (r y1 6) (x3.toNat)) + x4).toNat)) (fun z_10 A_11 => ∀ x4_13 : Int, x4_13 = x4 + 1 → P25 z_10 A_11 x4_13)))) → P25 z A x4) → P25 z A x4
noncomputable def wp_c9_spread_14 (L : List Nat) (K : Nat → cw_K) (z : Nat → Nat → Int) (r : Nat → Nat → Nat) (A : Nat → Nat → Int) (y0 : Nat) (y1 : Nat) (y2 : Nat) (x3 : Int) (Q : (Nat → Nat → Int) → (Nat → Nat → Int) → Prop) : Prop := ∀ P14 : (Nat → Nat → Int) → (Nat → Nat → Int) → Int → Prop, (∀ (z : Nat → Nat → Int) (A : Nat → Nat → Int) (x3 : Int), cw_O L K 7 y1 ∧ hz_rI x3 ∧ hz_rI (z y1 0) ∧ ((z y1 0 ≤ x3 → Q z A) ∧ (¬ (z y1 0 ≤ x3) → wp_c9_spread_25 L K z r A y0 y1 y2 x3 0 P14 Q)) → P14 z A x3) → P14 z A x3
noncomputable def wp_c9_spread (L : List Nat) (K : Nat → cw_K) (z : Nat → Nat → Int) (r : Nat → Nat → Nat) (A : Nat → Nat → Int) (y0 : Nat) (y1 : Nat) (y2 : Nat) (Q : (Nat → Nat → Int) → (Nat → Nat → Int) → Prop) : Prop := cw_O L K 3 y2 ∧ cw_G L K 4 (r y2 0) ∧ ((0 : Int) ≤ 0 ∧ 0 < (cw_n K (r y2 0) : Int)) ∧ cw_O L K 9 y0 ∧ wp_c9_spreadLine L K z r A y0 y1 (-1) (cw_g K (r y2 0) ((0 : Int).toNat)) (fun z_19 A_20 => wp_c9_spread_14 L K z_19 r A_20 y0 y1 y2 0  Q)
set_option maxHeartbeats 4000000 in
set_option maxRecDepth 100000 in
theorem k_c9_spread (l : Launch) (D : va_G) (sz : Nat) (C : Nat → ClassId) (L : List Nat) (K : Nat → cw_K) (z : Nat → Nat → Int) (r : Nat → Nat → Nat) (A : Nat → Nat → Int) (y0 : Nat) (y1 : Nat) (y2 : Nat) (Q : (Nat → Nat → Int) → (Nat → Nat → Int) → Prop) (hw : wp_c9_spread L K z r A y0 y1 y2 Q) : Met l yX9_spread wsX9_spread ({ frames := 5, cells := 0, slots := 0, locals := 124 } : Room) (va_Pc [.ref y0, .ref y1, .ref y2] (hm_P D (cw_w C L K z r A) (cw_t C) sz)) (va_Qv (S := Int × (Nat → Nat → Int) × (Nat → Nat → Nat) × (Nat → Nat → Int)) (fun u => Q u.2.1 u.2.2.2) (fun u t => hm_B D (va_A (cw_w C L K z r A) sz) (cw_w C L K u.2.1 r u.2.2.2) (cw_t C) t) (va_A (cw_w C L K z r A) sz)) 0 0 (va_A (cw_w C L K z r A) sz) := by
  refine Met.ofW (cc := cX9_spread) (maxL := 5) (ret := none) (by decide) rfl ?_
  intro p e s m args below meth c s₁ B hml hv
  obtain ⟨rfl, hsz, hP, hK, hD0, hE⟩ := hv
  have hx := B.exec
  have hb := B.bytes
  have hr := B.returns
  have hts := atoms_spec (ws := wsX9_spread) B.pre
  have hown : s.vm.findClass RX9 = some m.cls := findClass_of_methodNamed B.named
  have hlocks := B.notSynchronized
  have hin3 : ∀ w ∈ u_ws RX3 TX3 2, w ∈ wsX9_spread := fun w h => List.mem_cons_of_mem _ (List.mem_append_left _ (List.mem_append_left _ (List.mem_append_left _ (List.mem_append_right _ (h)))))
  have hin7 : ∀ w ∈ u_ws RX7 TX7 8, w ∈ wsX9_spread := fun w h => List.mem_cons_of_mem _ (List.mem_append_left _ (List.mem_append_left _ (List.mem_append_right _ (h))))
  subst hsz
  have hD := hD0.self (sz := s.heap.size)
  generalize hAe : va_A (cw_w C L K z r A) s.heap.size = Ad at hD ⊢
  have hA : ∀ q : Nat, s.heap.size ≤ q → Ad q := fun q h => by rw [← hAe]; exact Or.inr h
  have hS : va_S Ad s.heap s.heap [] := va_S.rf
  have hl := lv_entry ([.ref y0, .ref y1, .ref y2]) (n := 5) (Nat.le_of_ble_eq_true rfl)
  rw [lg_entry_eq]
  generalize (lg_sl ([.ref y0, .ref y1, .ref y2]) ++ List.replicate (5 - (lg_sl ([.ref y0, .ref y1, .ref y2])).length) Slot.unset).toArray = ls at hl ⊢
  have hl : lv_has ls 5 [(0, .ref y0), (1, .ref y1), (2, .ref y2)] := hl
  refine mw_Q (fun QQ hQQ => ?_)
  have hP0 := hP; have hD0 := hD; have hS0 := hS; have hl0 := hl; have hw0 := hw
  clear hP hD hS hl hw
  have L14 : ∀ (z : Nat → Nat → Int) (A : Nat → Nat → Int) (x3 : Int), wp_c9_spread_14 L K z r A y0 y1 y2 x3  Q → ∀ (H : Heap) (locs : List Loc) (ls : Array Slot), va_P D vwCl (cw_w C L K z r A) H → va_D Ad (cw_w C L K z r A) → va_S Ad s.heap H locs → lv_has ls 5 [(0, .ref y0), (1, .ref y1), (2, .ref y2), (3, .int (hz_i x3))] → W p l e (headSpec wsX9_spread ({ frames := 5, cells := 0, slots := 0, locals := 124 } : Room)).room s m (List.toArray [.ref y0, .ref y1, .ref y2]) below meth c H locs 0 0 QQ (F0 m 14 ls []) := by
    intro z A x3 hw
    obtain ⟨P14, hP14⟩ : ∃ P : (Nat → Nat → Int) → (Nat → Nat → Int) → Int → Prop, ∀ (z : Nat → Nat → Int) (A : Nat → Nat → Int) (x3 : Int), P z A x3 ↔ (∀ (H : Heap) (locs : List Loc) (ls : Array Slot), va_P D vwCl (cw_w C L K z r A) H → va_D Ad (cw_w C L K z r A) → va_S Ad s.heap H locs → lv_has ls 5 [(0, .ref y0), (1, .ref y1), (2, .ref y2), (3, .int (hz_i x3))] → W p l e (headSpec wsX9_spread ({ frames := 5, cells := 0, slots := 0, locals := 124 } : Room)).room s m (List.toArray [.ref y0, .ref y1, .ref y2]) below meth c H locs 0 0 QQ (F0 m 14 ls [])) := ⟨fun (z : Nat → Nat → Int) (A : Nat → Nat → Int) (x3 : Int) => ∀ (H : Heap) (locs : List Loc) (ls : Array Slot), va_P D vwCl (cw_w C L K z r A) H → va_D Ad (cw_w C L K z r A) → va_S Ad s.heap H locs → lv_has ls 5 [(0, .ref y0), (1, .ref y1), (2, .ref y2), (3, .int (hz_i x3))] → W p l e (headSpec wsX9_spread ({ frames := 5, cells := 0, slots := 0, locals := 124 } : Room)).room s m (List.toArray [.ref y0, .ref y1, .ref y2]) below meth c H locs 0 0 QQ (F0 m 14 ls []), fun _ _ _ => Iff.rfl⟩
    refine (hP14 z A x3).mp (hw P14 ?_)
    intro z A x3 hw
    refine (hP14 z A x3).mpr ?_
    intro H locs ls hP hD hS hl
    have L25 : ∀ (z : Nat → Nat → Int) (A : Nat → Nat → Int) (x3 : Int) (x4 : Int), wp_c9_spread_25 L K z r A y0 y1 y2 x3 x4 P14 Q → ∀ (H : Heap) (locs : List Loc) (ls : Array Slot), va_P D vwCl (cw_w C L K z r A) H → va_D Ad (cw_w C L K z r A) → va_S Ad s.heap H locs → lv_has ls 5 [(0, .ref y0), (1, .ref y1), (2, .ref y2), (3, .int (hz_i x3)), (4, .int (hz_i x4))] → W p l e (headSpec wsX9_spread ({ frames := 5, cells := 0, slots := 0, locals := 124 } : Room)).room s m (List.toArray [.ref y0, .ref y1, .ref y2]) below meth c H locs 0 0 QQ (F0 m 25 ls []) := by
      intro z A x3 x4 hw
      obtain ⟨P25, hP25⟩ : ∃ P : (Nat → Nat → Int) → (Nat → Nat → Int) → Int → Prop, ∀ (z : Nat → Nat → Int) (A : Nat → Nat → Int) (x4 : Int), P z A x4 ↔ (∀ (H : Heap) (locs : List Loc) (ls : Array Slot), va_P D vwCl (cw_w C L K z r A) H → va_D Ad (cw_w C L K z r A) → va_S Ad s.heap H locs → lv_has ls 5 [(0, .ref y0), (1, .ref y1), (2, .ref y2), (3, .int (hz_i x3)), (4, .int (hz_i x4))] → W p l e (headSpec wsX9_spread ({ frames := 5, cells := 0, slots := 0, locals := 124 } : Room)).room s m (List.toArray [.ref y0, .ref y1, .ref y2]) below meth c H locs 0 0 QQ (F0 m 25 ls [])) := ⟨fun (z : Nat → Nat → Int) (A : Nat → Nat → Int) (x4 : Int) => ∀ (H : Heap) (locs : List Loc) (ls : Array Slot), va_P D vwCl (cw_w C L K z r A) H → va_D Ad (cw_w C L K z r A) → va_S Ad s.heap H locs → lv_has ls 5 [(0, .ref y0), (1, .ref y1), (2, .ref y2), (3, .int (hz_i x3)), (4, .int (hz_i x4))] → W p l e (headSpec wsX9_spread ({ frames := 5, cells := 0, slots := 0, locals := 124 } : Room)).room s m (List.toArray [.ref y0, .ref y1, .ref y2]) below meth c H locs 0 0 QQ (F0 m 25 ls []), fun _ _ _ => Iff.rfl⟩
      refine (hP25 z A x4).mp (hw P25 ?_)
      intro z A x4 hw
      refine (hP25 z A x4).mpr ?_
      intro H locs ls hP hD hS hl
      refine lv_iload hx hb dX9_spread_25 (lv_at hl 4 rfl) ?_
      refine lv_aload_n hx hb dX9_spread_27 rfl (lv_at hl 1 rfl) ?_
      obtain ⟨hO_1, hw⟩ := hw
      refine cw_get (ci := 7) (v := .ref (r y1 2)) hx hb hts hin7 hown hK hP hO_1.1 hO_1.2 rfl 2 (by decide) (hts (.fieldLink RX9 38 "HiddenMoves$Side" "moves" "[I") (List.mem_cons_of_mem _ (List.mem_append_left _ (List.mem_append_left _ (List.mem_append_left _ (List.mem_append_left _ (List.mem_append_left _ (List.mem_of_getElem? (i := 2) rfl)))))))) (fun _ h9 => h9) rfl dX9_spread_28 ?_
      refine lv_iload_n hx hb dX9_spread_31 rfl (lv_at hl 3 rfl) ?_
      obtain ⟨hO_2, hw⟩ := hw
      obtain ⟨h9i, hw⟩ := hw
      refine cw_ild hx hb hK hP hO_2.1 hO_2.2.2 h9i hO_2.2.1 dX9_spread_32 ?_
      obtain ⟨h9a, hw⟩ := hw
      obtain ⟨h9b, hw⟩ := hw
      refine hz_icmp_ge (tgt := 67) hx hb dX9_spread_33 (by decide) h9a h9b (fun c_3 => ?_) (fun c_3 => ?_)
      · have hw := hw.1 c_3
        obtain ⟨x3_4, hx3_4⟩ : ∃ y : Int, y = x3 + 1 := ⟨_, rfl⟩
        have hw := hw x3_4 hx3_4
        refine lv_iinc (v := hz_i x3_4) (lv' := [(3, .int (hz_i x3_4)), (0, .ref y0), (1, .ref y1), (2, .ref y2), (4, .int (hz_i x4))]) hx hb dX9_spread_67 hl (k := 3) rfl (by rw [hx3_4]; exact hz_i_add _ _) (by decide) rfl (fun ls hl => ?_)
        refine lv_goto (tgt := 14) hx hb dX9_spread_70 (by decide) ?_
        exact (hP14 z A x3_4).mp hw H locs ls hP hD hS (lv_sub hl [1, 2, 3, 0] rfl)
      · have hw := hw.2 c_3
        refine lv_aload_n hx hb dX9_spread_36 rfl (lv_at hl 0 rfl) ?_
        refine lv_aload_n hx hb dX9_spread_37 rfl (lv_at hl 1 rfl) ?_
        refine lv_iload_n hx hb dX9_spread_38 rfl (lv_at hl 3 rfl) ?_
        refine lv_iload hx hb dX9_spread_39 (lv_at hl 4 rfl) ?_
        have hFc := cw_free hD hS hA
        refine va_calli (va_runS (As := [.int (hz_i x3), .int (hz_i x4)]) (rest := [.ref y1, .ref y0]) ⟨hx, hb, hml, hown, hts⟩ (k_c7_deed l D _ C L K z r A x3 x4 _ hw) (va_cwS 2 hts gX9_spread_X7_deed rfl rfl rfl (by decide +kernel) ⟨Nat.le_of_ble_eq_true rfl, Nat.le_of_ble_eq_true rfl⟩) ⟨hm_blind, hm_pre hP hK hD hE⟩ rfl rfl hl.1 rfl (lv_room (Nat.le_of_ble_eq_true rfl)) dX9_spread_41 ⟨Nat.le_of_ble_eq_true rfl, Nat.le_of_ble_eq_true rfl⟩) hS (fun q _ h => hFc q h) hFc (fun rv u t H1 locs ht hvm hw hB hz1 hk1 hS => ?_)
        obtain ⟨rv_5, _, _, _⟩ := u
        obtain ⟨hP, hK1, hD1⟩ := hB
        rw [ht] at hP
        obtain ⟨hrv, hw⟩ := hw
        subst hrv
        have hD := hD1.weaken (fun k q _ h => hFc q.1 h)
        have hP : va_P D vwCl (cw_w C L K z r A) H1 := hP
        have hD : va_D Ad (cw_w C L K z r A) := hD
        generalize H1 = H at hP hS ⊢
        refine W.eq (g2 := F0 m 44 ls [.int (hz_i rv_5), .ref y1, .ref y0]) rfl ?_
        refine lv_aload_n hx hb dX9_spread_44 rfl (lv_at hl 2 rfl) ?_
        obtain ⟨hO_6, hw⟩ := hw
        refine cw_get (ci := 3) (v := .ref (r y2 0)) hx hb hts hin3 hown hK hP hO_6.1 hO_6.2 rfl 0 (by decide) (hts (.fieldLink RX9 48 "HiddenMoves$Mix" "parts" "[LHiddenMoves$Big;") (List.mem_cons_of_mem _ (List.mem_append_left _ (List.mem_append_left _ (List.mem_append_left _ (List.mem_append_left _ (List.mem_append_left _ (List.mem_of_getElem? (i := 0) rfl)))))))) (fun _ h9 => h9) rfl dX9_spread_45 ?_
        refine lv_aload_n hx hb dX9_spread_48 rfl (lv_at hl 1 rfl) ?_
        refine cw_get (ci := 7) (v := .ref (r y1 6)) hx hb hts hin7 hown hK hP hO_1.1 hO_1.2 rfl 6 (by decide) (hts (.fieldLink RX9 62 "HiddenMoves$Side" "firstLines" "[I") (List.mem_cons_of_mem _ (List.mem_append_left _ (List.mem_append_left _ (List.mem_append_left _ (List.mem_append_left _ (List.mem_append_left _ (List.mem_of_getElem? (i := 3) rfl)))))))) (fun _ h9 => h9) rfl dX9_spread_49 ?_
        refine lv_iload_n hx hb dX9_spread_52 rfl (lv_at hl 3 rfl) ?_
        obtain ⟨hO_7, hw⟩ := hw
        obtain ⟨h9i, hw⟩ := hw
        refine cw_ild hx hb hK hP hO_7.1 hO_7.2.2 h9i hO_7.2.1 dX9_spread_53 ?_
        refine lv_iload hx hb dX9_spread_54 (lv_at hl 4 rfl) ?_
        refine hz_iadd hx hb dX9_spread_56 ?_
        obtain ⟨hO_8, hw⟩ := hw
        obtain ⟨h9i, hw⟩ := hw
        refine cw_ald hx hb hK hP hO_8.1 hO_8.2.2 rfl h9i hO_8.2.1 dX9_spread_57 ?_
        obtain ⟨hO_12, hw⟩ := hw
        have hFc := cw_free hD hS hA
        obtain ⟨q9, hq9⟩ := cw_at (C := C) (z := z) (r := r) (A := A) hO_12.1 hO_12.2
        refine va_callv (va_runV (As := [.ref y1, .int (hz_i rv_5), .ref (cw_g K (r y2 0) (((A (r y1 6) (x3.toNat)) + x4).toNat))]) (rest := []) ⟨hx, hb, hml, hown, hts⟩ (k_c9_spreadLine l D _ C L K z r A y0 y1 rv_5 (cw_g K (r y2 0) (((A (r y1 6) (x3.toNat)) + x4).toNat)) _ hw) (cwV 3 hts gX9_spread_X9_spreadLine rfl rfl rfl (by decide +kernel) ⟨Nat.le_of_ble_eq_true rfl, Nat.le_of_ble_eq_true rfl⟩) ⟨hm_blind, va_recv hK hP (ci := 9) (q0 := q9) rfl hq9, hm_pre hP hK hD hE⟩ rfl rfl hl.1 rfl (lv_room (Nat.le_of_ble_eq_true rfl)) dX9_spread_58 ⟨Nat.le_of_ble_eq_true rfl, Nat.le_of_ble_eq_true rfl⟩) hS (fun q _ h => hFc q h) hFc (fun u t H1 locs ht hvm hw hB hz1 hk1 hS => ?_)
        obtain ⟨rv_9, z_10, _, A_11⟩ := u
        obtain ⟨hP, hK1, hD1⟩ := hB
        rw [ht] at hP
        have hD := hD1.weaken (fun k q _ h => hFc q.1 h)
        have hP : va_P D vwCl (cw_w C L K z_10 r A_11) H1 := hP
        have hD : va_D Ad (cw_w C L K z_10 r A_11) := hD
        generalize H1 = H at hP hS ⊢
        refine W.eq (g2 := F0 m 61 ls []) rfl ?_
        obtain ⟨x4_13, hx4_13⟩ : ∃ y : Int, y = x4 + 1 := ⟨_, rfl⟩
        have hw := hw x4_13 hx4_13
        refine lv_iinc (v := hz_i x4_13) (lv' := [(4, .int (hz_i x4_13)), (0, .ref y0), (1, .ref y1), (2, .ref y2), (3, .int (hz_i x3))]) hx hb dX9_spread_61 hl (k := 4) rfl (by rw [hx4_13]; exact hz_i_add _ _) (by decide) rfl (fun ls hl => ?_)
        refine lv_goto (tgt := 25) hx hb dX9_spread_64 (by decide) ?_
        exact (hP25 z_10 A_11 x4_13).mp hw H locs ls hP hD hS (lv_sub hl [1, 2, 3, 4, 0] rfl)
    refine lv_iload_n hx hb dX9_spread_14 rfl (lv_at hl 3 rfl) ?_
    refine lv_aload_n hx hb dX9_spread_15 rfl (lv_at hl 1 rfl) ?_
    obtain ⟨hO_14, hw⟩ := hw
    refine cw_get (ci := 7) (v := .int (hz_i (z y1 0))) hx hb hts hin7 hown hK hP hO_14.1 hO_14.2 rfl 0 (by decide) (hts (.fieldLink RX9 28 "HiddenMoves$Side" "sets" "I") (List.mem_cons_of_mem _ (List.mem_append_left _ (List.mem_append_left _ (List.mem_append_left _ (List.mem_append_left _ (List.mem_append_left _ (List.mem_of_getElem? (i := 1) rfl)))))))) (fun _ h9 => h9) rfl dX9_spread_16 ?_
    obtain ⟨h9a, hw⟩ := hw
    obtain ⟨h9b, hw⟩ := hw
    refine hz_icmp_ge (tgt := 73) hx hb dX9_spread_19 (by decide) h9a h9b (fun c_15 => ?_) (fun c_15 => ?_)
    · have hw := hw.1 c_15
      subst hQQ
      subst hAe
      exact W.vret hx hb hr (fun t ht hW => ⟨⟨(0, z, r, A), rfl, hw, by rw [ht]; exact hP, va_K.moved hW.alike hK, hD⟩, hS.F ht⟩) hS.2.2 dX9_spread_73
    · have hw := hw.2 c_15
      refine lv_iconst (v := hz_i 0) hx hb dX9_spread_22 (by decide +kernel) ?_
      refine lv_istore (lv' := [(4, .int (hz_i 0)), (0, .ref y0), (1, .ref y1), (2, .ref y2), (3, .int (hz_i x3))]) hx hb dX9_spread_23 hl (by decide) rfl (fun ls hl => ?_)
      exact L25 z A x3 0 hw H locs ls hP hD hS (lv_sub hl [1, 2, 3, 4, 0] rfl)
  have hP := hP0; have hD := hD0; have hS := hS0; have hl := hl0; have hw := hw0
  obtain ⟨H, hH⟩ : ∃ H : Heap, H = s.heap := ⟨_, rfl⟩
  obtain ⟨locs, hlocs⟩ : ∃ L : List Loc, L = [] := ⟨_, rfl⟩
  rw [← hH] at hP
  have hS : va_S Ad s.heap H locs := by rw [hH, hlocs]; exact hS
  refine mw_HL hH hlocs ?_
  refine lv_aload_n hx hb dX9_spread_0 rfl (lv_at hl 0 rfl) ?_
  refine lv_aload_n hx hb dX9_spread_1 rfl (lv_at hl 1 rfl) ?_
  refine lv_iconst (v := hz_i (-1)) hx hb dX9_spread_2 (by decide +kernel) ?_
  refine lv_aload_n hx hb dX9_spread_3 rfl (lv_at hl 2 rfl) ?_
  obtain ⟨hO_16, hw⟩ := hw
  refine cw_get (ci := 3) (v := .ref (r y2 0)) hx hb hts hin3 hown hK hP hO_16.1 hO_16.2 rfl 0 (by decide) (hts (.fieldLink RX9 48 "HiddenMoves$Mix" "parts" "[LHiddenMoves$Big;") (List.mem_cons_of_mem _ (List.mem_append_left _ (List.mem_append_left _ (List.mem_append_left _ (List.mem_append_left _ (List.mem_append_left _ (List.mem_of_getElem? (i := 0) rfl)))))))) (fun _ h9 => h9) rfl dX9_spread_4 ?_
  refine lv_iconst (v := hz_i 0) hx hb dX9_spread_7 (by decide +kernel) ?_
  obtain ⟨hO_17, hw⟩ := hw
  obtain ⟨h9i, hw⟩ := hw
  refine cw_ald hx hb hK hP hO_17.1 hO_17.2.2 rfl h9i hO_17.2.1 dX9_spread_8 ?_
  obtain ⟨hO_21, hw⟩ := hw
  have hFc := cw_free hD hS hA
  obtain ⟨q9, hq9⟩ := cw_at (C := C) (z := z) (r := r) (A := A) hO_21.1 hO_21.2
  refine va_callv (va_runV (As := [.ref y1, .int (hz_i (-1)), .ref (cw_g K (r y2 0) ((0 : Int).toNat))]) (rest := []) ⟨hx, hb, hml, hown, hts⟩ (k_c9_spreadLine l D _ C L K z r A y0 y1 (-1) (cw_g K (r y2 0) ((0 : Int).toNat)) _ hw) (cwV 3 hts gX9_spread_X9_spreadLine rfl rfl rfl (by decide +kernel) ⟨Nat.le_of_ble_eq_true rfl, Nat.le_of_ble_eq_true rfl⟩) ⟨hm_blind, va_recv hK hP (ci := 9) (q0 := q9) rfl hq9, hm_pre hP hK hD hE⟩ rfl rfl hl.1 rfl (lv_room (Nat.le_of_ble_eq_true rfl)) dX9_spread_9 ⟨Nat.le_of_ble_eq_true rfl, Nat.le_of_ble_eq_true rfl⟩) hS (fun q _ h => hFc q h) hFc (fun u t H1 locs ht hvm hw hB hz1 hk1 hS => ?_)
  obtain ⟨rv_18, z_19, _, A_20⟩ := u
  obtain ⟨hP, hK1, hD1⟩ := hB
  rw [ht] at hP
  have hD := hD1.weaken (fun k q _ h => hFc q.1 h)
  have hP : va_P D vwCl (cw_w C L K z_19 r A_20) H1 := hP
  have hD : va_D Ad (cw_w C L K z_19 r A_20) := hD
  generalize H1 = H at hP hS ⊢
  refine W.eq (g2 := F0 m 12 ls []) rfl ?_
  refine lv_iconst (v := hz_i 0) hx hb dX9_spread_12 (by decide +kernel) ?_
  refine lv_istore_n (lv' := [(3, .int (hz_i 0)), (0, .ref y0), (1, .ref y1), (2, .ref y2)]) hx hb dX9_spread_13 rfl hl (by decide) rfl (fun ls hl => ?_)
  exact L14 z_19 A_20 0 hw H locs ls hP hD hS (lv_sub hl [1, 2, 3, 0] rfl)

noncomputable def wp_c11_spreadWay (L : List Nat) (K : Nat → cw_K) (z : Nat → Nat → Int) (r : Nat → Nat → Nat) (A : Nat → Nat → Int) (y0 : Nat) (y1 : Int) (Q : (Nat → Nat → Int) → (Nat → Nat → Int) → Prop) : Prop := cw_O L K 11 y0 ∧ cw_G L K 9 (r y0 4) ∧ ((0 : Int) ≤ y1 ∧ y1 < (cw_n K (r y0 4) : Int)) ∧ cw_O L K 2 (r y0 13) ∧ cw_G L K 7 (r (r y0 13) 1) ∧ ((0 : Int) ≤ y1 ∧ y1 < (cw_n K (r (r y0 13) 1) : Int)) ∧ cw_G L K 8 (r y0 5) ∧ ((0 : Int) ≤ y1 ∧ y1 < (cw_n K (r y0 5) : Int)) ∧ cw_O L K 9 (cw_g K (r y0 4) (y1.toNat)) ∧ wp_c9_spread L K z r A (cw_g K (r y0 4) (y1.toNat)) (cw_g K (r (r y0 13) 1) (y1.toNat)) (cw_g K (r y0 5) (y1.toNat)) (fun z_7 A_8 => Q z_7 A_8)
set_option maxHeartbeats 4000000 in
set_option maxRecDepth 100000 in
theorem k_c11_spreadWay (l : Launch) (D : va_G) (sz : Nat) (C : Nat → ClassId) (L : List Nat) (K : Nat → cw_K) (z : Nat → Nat → Int) (r : Nat → Nat → Nat) (A : Nat → Nat → Int) (y0 : Nat) (y1 : Int) (Q : (Nat → Nat → Int) → (Nat → Nat → Int) → Prop) (hw : wp_c11_spreadWay L K z r A y0 y1 Q) : Met l yX11_spreadWay wsX11_spreadWay ({ frames := 6, cells := 0, slots := 0, locals := 148 } : Room) (va_Pc [.ref y0, .int (hz_i y1)] (hm_P D (cw_w C L K z r A) (cw_t C) sz)) (va_Qv (S := Int × (Nat → Nat → Int) × (Nat → Nat → Nat) × (Nat → Nat → Int)) (fun u => Q u.2.1 u.2.2.2) (fun u t => hm_B D (va_A (cw_w C L K z r A) sz) (cw_w C L K u.2.1 r u.2.2.2) (cw_t C) t) (va_A (cw_w C L K z r A) sz)) 0 0 (va_A (cw_w C L K z r A) sz) := by
  refine Met.ofW (cc := cX11_spreadWay) (maxL := 2) (ret := none) (by decide) rfl ?_
  intro p e s m args below meth c s₁ B hml hv
  obtain ⟨rfl, hsz, hP, hK, hD0, hE⟩ := hv
  have hx := B.exec
  have hb := B.bytes
  have hr := B.returns
  have hts := atoms_spec (ws := wsX11_spreadWay) B.pre
  have hown : s.vm.findClass RX11 = some m.cls := findClass_of_methodNamed B.named
  have hlocks := B.notSynchronized
  have hin2 : ∀ w ∈ u_ws RX2 TX2 4, w ∈ wsX11_spreadWay := fun w h => List.mem_cons_of_mem _ (List.mem_append_left _ (List.mem_append_left _ (List.mem_append_left _ (List.mem_append_left _ (List.mem_append_right _ (h))))))
  have hin11 : ∀ w ∈ u_ws RX11 TX11 16, w ∈ wsX11_spreadWay := fun w h => List.mem_cons_of_mem _ (List.mem_append_left _ (List.mem_append_left _ (List.mem_append_left _ (List.mem_append_left _ (List.mem_append_left _ (List.mem_append_right _ (h)))))))
  subst hsz
  have hD := hD0.self (sz := s.heap.size)
  generalize hAe : va_A (cw_w C L K z r A) s.heap.size = Ad at hD ⊢
  have hA : ∀ q : Nat, s.heap.size ≤ q → Ad q := fun q h => by rw [← hAe]; exact Or.inr h
  have hS : va_S Ad s.heap s.heap [] := va_S.rf
  have hl := lv_entry ([.ref y0, .int (hz_i y1)]) (n := 2) (Nat.le_of_ble_eq_true rfl)
  rw [lg_entry_eq]
  generalize (lg_sl ([.ref y0, .int (hz_i y1)]) ++ List.replicate (2 - (lg_sl ([.ref y0, .int (hz_i y1)])).length) Slot.unset).toArray = ls at hl ⊢
  have hl : lv_has ls 2 [(0, .ref y0), (1, .int (hz_i y1))] := hl
  refine mw_Q (fun QQ hQQ => ?_)
  have hP0 := hP; have hD0 := hD; have hS0 := hS; have hl0 := hl; have hw0 := hw
  clear hP hD hS hl hw
  have hP := hP0; have hD := hD0; have hS := hS0; have hl := hl0; have hw := hw0
  obtain ⟨H, hH⟩ : ∃ H : Heap, H = s.heap := ⟨_, rfl⟩
  obtain ⟨locs, hlocs⟩ : ∃ L : List Loc, L = [] := ⟨_, rfl⟩
  rw [← hH] at hP
  have hS : va_S Ad s.heap H locs := by rw [hH, hlocs]; exact hS
  refine mw_HL hH hlocs ?_
  refine lv_aload_n hx hb dX11_spreadWay_0 rfl (lv_at hl 0 rfl) ?_
  obtain ⟨hO_1, hw⟩ := hw
  refine cw_get (ci := 11) (v := .ref (r y0 4)) hx hb hts hin11 hown hK hP hO_1.1 hO_1.2 rfl 4 (by decide) (hts (.fieldLink RX11 33 "HiddenMoves" "ways" "[LHiddenMoves$Way;") (List.mem_cons_of_mem _ (List.mem_append_left _ (List.mem_append_left _ (List.mem_append_left _ (List.mem_append_left _ (List.mem_append_left _ (List.mem_append_left _ (List.mem_append_left _ (List.mem_of_getElem? (i := 0) rfl)))))))))) (fun _ h9 => h9) rfl dX11_spreadWay_1 ?_
  refine lv_iload_n hx hb dX11_spreadWay_4 rfl (lv_at hl 1 rfl) ?_
  obtain ⟨hO_2, hw⟩ := hw
  obtain ⟨h9i, hw⟩ := hw
  refine cw_ald hx hb hK hP hO_2.1 hO_2.2.2 rfl h9i hO_2.2.1 dX11_spreadWay_5 ?_
  refine lv_aload_n hx hb dX11_spreadWay_6 rfl (lv_at hl 0 rfl) ?_
  refine cw_get (ci := 11) (v := .ref (r y0 13)) hx hb hts hin11 hown hK hP hO_1.1 hO_1.2 rfl 13 (by decide) (hts (.fieldLink RX11 83 "HiddenMoves" "game" "LHiddenMoves$Game;") (List.mem_cons_of_mem _ (List.mem_append_left _ (List.mem_append_left _ (List.mem_append_left _ (List.mem_append_left _ (List.mem_append_left _ (List.mem_append_left _ (List.mem_append_left _ (List.mem_of_getElem? (i := 1) rfl)))))))))) (fun _ h9 => h9) rfl dX11_spreadWay_7 ?_
  obtain ⟨hO_3, hw⟩ := hw
  refine cw_get (ci := 2) (v := .ref (r (r y0 13) 1)) hx hb hts hin2 hown hK hP hO_3.1 hO_3.2 rfl 1 (by decide) (hts (.fieldLink RX11 238 "HiddenMoves$Game" "sides" "[LHiddenMoves$Side;") (List.mem_cons_of_mem _ (List.mem_append_left _ (List.mem_append_left _ (List.mem_append_left _ (List.mem_append_left _ (List.mem_append_left _ (List.mem_append_left _ (List.mem_append_left _ (List.mem_of_getElem? (i := 2) rfl)))))))))) (fun _ h9 => h9) rfl dX11_spreadWay_10 ?_
  refine lv_iload_n hx hb dX11_spreadWay_13 rfl (lv_at hl 1 rfl) ?_
  obtain ⟨hO_4, hw⟩ := hw
  obtain ⟨h9i, hw⟩ := hw
  refine cw_ald hx hb hK hP hO_4.1 hO_4.2.2 rfl h9i hO_4.2.1 dX11_spreadWay_14 ?_
  refine lv_aload_n hx hb dX11_spreadWay_15 rfl (lv_at hl 0 rfl) ?_
  refine cw_get (ci := 11) (v := .ref (r y0 5)) hx hb hts hin11 hown hK hP hO_1.1 hO_1.2 rfl 5 (by decide) (hts (.fieldLink RX11 39 "HiddenMoves" "told" "[LHiddenMoves$Mix;") (List.mem_cons_of_mem _ (List.mem_append_left _ (List.mem_append_left _ (List.mem_append_left _ (List.mem_append_left _ (List.mem_append_left _ (List.mem_append_left _ (List.mem_append_left _ (List.mem_of_getElem? (i := 3) rfl)))))))))) (fun _ h9 => h9) rfl dX11_spreadWay_16 ?_
  refine lv_iload_n hx hb dX11_spreadWay_19 rfl (lv_at hl 1 rfl) ?_
  obtain ⟨hO_5, hw⟩ := hw
  obtain ⟨h9i, hw⟩ := hw
  refine cw_ald hx hb hK hP hO_5.1 hO_5.2.2 rfl h9i hO_5.2.1 dX11_spreadWay_20 ?_
  obtain ⟨hO_9, hw⟩ := hw
  have hFc := cw_free hD hS hA
  obtain ⟨q9, hq9⟩ := cw_at (C := C) (z := z) (r := r) (A := A) hO_9.1 hO_9.2
  refine va_callv (va_runV (As := [.ref (cw_g K (r (r y0 13) 1) (y1.toNat)), .ref (cw_g K (r y0 5) (y1.toNat))]) (rest := []) ⟨hx, hb, hml, hown, hts⟩ (k_c9_spread l D _ C L K z r A (cw_g K (r y0 4) (y1.toNat)) (cw_g K (r (r y0 13) 1) (y1.toNat)) (cw_g K (r y0 5) (y1.toNat)) _ hw) (cwV 2 hts gX11_spreadWay_X9_spread rfl rfl rfl (by decide +kernel) ⟨Nat.le_of_ble_eq_true rfl, Nat.le_of_ble_eq_true rfl⟩) ⟨hm_blind, va_recv hK hP (ci := 9) (q0 := q9) rfl hq9, hm_pre hP hK hD hE⟩ rfl rfl hl.1 rfl (lv_room (Nat.le_of_ble_eq_true rfl)) dX11_spreadWay_21 ⟨Nat.le_of_ble_eq_true rfl, Nat.le_of_ble_eq_true rfl⟩) hS (fun q _ h => hFc q h) hFc (fun u t H1 locs ht hvm hw hB hz1 hk1 hS => ?_)
  obtain ⟨rv_6, z_7, _, A_8⟩ := u
  obtain ⟨hP, hK1, hD1⟩ := hB
  rw [ht] at hP
  have hD := hD1.weaken (fun k q _ h => hFc q.1 h)
  have hP : va_P D vwCl (cw_w C L K z_7 r A_8) H1 := hP
  have hD : va_D Ad (cw_w C L K z_7 r A_8) := hD
  generalize H1 = H at hP hS ⊢
  refine W.eq (g2 := F0 m 24 ls []) rfl ?_
  subst hQQ
  subst hAe
  exact W.vret hx hb hr (fun t ht hW => ⟨⟨(0, z_7, r, A_8), rfl, hw, by rw [ht]; exact hP, va_K.moved hW.alike hK, hD⟩, hS.F ht⟩) hS.2.2 dX11_spreadWay_24

noncomputable def wp_c6_meet_16 (L : List Nat) (K : Nat → cw_K) (z : Nat → Nat → Int) (r : Nat → Nat → Nat) (A : Nat → Nat → Int) (y0 : Nat) (y1 : Nat) (y2 : Nat) (y4 : Nat) (x5 : Int) (Q : (Nat → Nat → Int) → (Nat → Nat → Int) → Prop) : Prop := ∀ P16 : (Nat → Nat → Int) → (Nat → Nat → Int) → Int → Prop, (∀ (z : Nat → Nat → Int) (A : Nat → Nat → Int) (x5 : Int), cw_O L K 2 y1 ∧ cw_G L K 7 (r y1 1) ∧ ((0 : Int) ≤ 0 ∧ 0 < (cw_n K (r y1 1) : Int)) ∧ cw_O L K 7 (cw_g K (r y1 1) ((0 : Int).toNat)) ∧ hz_rI x5 ∧ hz_rI (z (cw_g K (r y1 1) ((0 : Int).toNat)) 5) ∧ ((z (cw_g K (r y1 1) ((0 : Int).toNat)) 5 ≤ x5 → Q z A) ∧ (¬ (z (cw_g K (r y1 1) ((0 : Int).toNat)) 5 ≤ x5) → cw_O L K 6 y0 ∧ cw_G L K 4 (r y0 2) ∧ ((0 : Int) ≤ x5 ∧ x5 < (cw_n K (r y0 2) : Int)) ∧ cw_O L K 3 y2 ∧ cw_G L K 4 (r y2 0) ∧ ((0 : Int) ≤ x5 ∧ x5 < (cw_n K (r y2 0) : Int)) ∧ cw_O L K 0 (r y0 4) ∧ wp_c0_putProduct L K z r A (r y0 4) (cw_g K (r y0 2) (x5.toNat)) (cw_g K (r y2 0) (x5.toNat)) (fun z_10 A_11 => cw_O L K 0 y4 ∧ wp_c0_plus L K z_10 r A_11 y4 (r y0 4) (fun z_14 A_15 => ∀ x5_17 : Int, x5_17 = x5 + 1 → P16 z_14 A_15 x5_17)))) → P16 z A x5) → P16 z A x5
noncomputable def wp_c6_meet (L : List Nat) (K : Nat → cw_K) (z : Nat → Nat → Int) (r : Nat → Nat → Nat) (A : Nat → Nat → Int) (y0 : Nat) (y1 : Nat) (y2 : Nat) (y3 : Nat) (y4 : Nat) (Q : (Nat → Nat → Int) → (Nat → Nat → Int) → Prop) : Prop := cw_O L K 6 y0 ∧ wp_c6_gather L K z r A y0 y1 0 y3 (fun z_19 A_20 => cw_O L K 0 y4 ∧ wp_c0_put L K z_19 r A_20 y4 0 (fun z_23 A_24 => wp_c6_meet_16 L K z_23 r A_24 y0 y1 y2 y4 0  Q))
set_option maxHeartbeats 4000000 in
set_option maxRecDepth 100000 in
theorem k_c6_meet (l : Launch) (D : va_G) (sz : Nat) (C : Nat → ClassId) (L : List Nat) (K : Nat → cw_K) (z : Nat → Nat → Int) (r : Nat → Nat → Nat) (A : Nat → Nat → Int) (y0 : Nat) (y1 : Nat) (y2 : Nat) (y3 : Nat) (y4 : Nat) (Q : (Nat → Nat → Int) → (Nat → Nat → Int) → Prop) (hw : wp_c6_meet L K z r A y0 y1 y2 y3 y4 Q) : Met l yX6_meet wsX6_meet ({ frames := 4, cells := 0, slots := 0, locals := 101 } : Room) (va_Pc [.ref y0, .ref y1, .ref y2, .ref y3, .ref y4] (hm_P D (cw_w C L K z r A) (cw_t C) sz)) (va_Qv (S := Int × (Nat → Nat → Int) × (Nat → Nat → Nat) × (Nat → Nat → Int)) (fun u => Q u.2.1 u.2.2.2) (fun u t => hm_B D (va_A (cw_w C L K z r A) sz) (cw_w C L K u.2.1 r u.2.2.2) (cw_t C) t) (va_A (cw_w C L K z r A) sz)) 0 0 (va_A (cw_w C L K z r A) sz) := by
  refine Met.ofW (cc := cX6_meet) (maxL := 6) (ret := none) (by decide) rfl ?_
  intro p e s m args below meth c s₁ B hml hv
  obtain ⟨rfl, hsz, hP, hK, hD0, hE⟩ := hv
  have hx := B.exec
  have hb := B.bytes
  have hr := B.returns
  have hts := atoms_spec (ws := wsX6_meet) B.pre
  have hown : s.vm.findClass RX6 = some m.cls := findClass_of_methodNamed B.named
  have hlocks := B.notSynchronized
  have hin2 : ∀ w ∈ u_ws RX2 TX2 4, w ∈ wsX6_meet := fun w h => List.mem_cons_of_mem _ (List.mem_append_left _ (List.mem_append_left _ (List.mem_append_left _ (List.mem_append_left _ (List.mem_append_right _ (h))))))
  have hin3 : ∀ w ∈ u_ws RX3 TX3 2, w ∈ wsX6_meet := fun w h => List.mem_cons_of_mem _ (List.mem_append_left _ (List.mem_append_right _ (h)))
  have hin6 : ∀ w ∈ u_ws RX6 TX6 5, w ∈ wsX6_meet := fun w h => List.mem_cons_of_mem _ (List.mem_append_left _ (List.mem_append_left _ (List.mem_append_right _ (h))))
  have hin7 : ∀ w ∈ u_ws RX7 TX7 8, w ∈ wsX6_meet := fun w h => List.mem_cons_of_mem _ (List.mem_append_left _ (List.mem_append_left _ (List.mem_append_left _ (List.mem_append_right _ (h)))))
  subst hsz
  have hD := hD0.self (sz := s.heap.size)
  generalize hAe : va_A (cw_w C L K z r A) s.heap.size = Ad at hD ⊢
  have hA : ∀ q : Nat, s.heap.size ≤ q → Ad q := fun q h => by rw [← hAe]; exact Or.inr h
  have hS : va_S Ad s.heap s.heap [] := va_S.rf
  have hl := lv_entry ([.ref y0, .ref y1, .ref y2, .ref y3, .ref y4]) (n := 6) (Nat.le_of_ble_eq_true rfl)
  rw [lg_entry_eq]
  generalize (lg_sl ([.ref y0, .ref y1, .ref y2, .ref y3, .ref y4]) ++ List.replicate (6 - (lg_sl ([.ref y0, .ref y1, .ref y2, .ref y3, .ref y4])).length) Slot.unset).toArray = ls at hl ⊢
  have hl : lv_has ls 6 [(0, .ref y0), (1, .ref y1), (2, .ref y2), (3, .ref y3), (4, .ref y4)] := hl
  refine mw_Q (fun QQ hQQ => ?_)
  have hP0 := hP; have hD0 := hD; have hS0 := hS; have hl0 := hl; have hw0 := hw
  clear hP hD hS hl hw
  have L16 : ∀ (z : Nat → Nat → Int) (A : Nat → Nat → Int) (x5 : Int), wp_c6_meet_16 L K z r A y0 y1 y2 y4 x5  Q → ∀ (H : Heap) (locs : List Loc) (ls : Array Slot), va_P D vwCl (cw_w C L K z r A) H → va_D Ad (cw_w C L K z r A) → va_S Ad s.heap H locs → lv_has ls 6 [(0, .ref y0), (1, .ref y1), (2, .ref y2), (4, .ref y4), (5, .int (hz_i x5))] → W p l e (headSpec wsX6_meet ({ frames := 4, cells := 0, slots := 0, locals := 101 } : Room)).room s m (List.toArray [.ref y0, .ref y1, .ref y2, .ref y3, .ref y4]) below meth c H locs 0 0 QQ (F0 m 16 ls []) := by
    intro z A x5 hw
    obtain ⟨P16, hP16⟩ : ∃ P : (Nat → Nat → Int) → (Nat → Nat → Int) → Int → Prop, ∀ (z : Nat → Nat → Int) (A : Nat → Nat → Int) (x5 : Int), P z A x5 ↔ (∀ (H : Heap) (locs : List Loc) (ls : Array Slot), va_P D vwCl (cw_w C L K z r A) H → va_D Ad (cw_w C L K z r A) → va_S Ad s.heap H locs → lv_has ls 6 [(0, .ref y0), (1, .ref y1), (2, .ref y2), (4, .ref y4), (5, .int (hz_i x5))] → W p l e (headSpec wsX6_meet ({ frames := 4, cells := 0, slots := 0, locals := 101 } : Room)).room s m (List.toArray [.ref y0, .ref y1, .ref y2, .ref y3, .ref y4]) below meth c H locs 0 0 QQ (F0 m 16 ls [])) := ⟨fun (z : Nat → Nat → Int) (A : Nat → Nat → Int) (x5 : Int) => ∀ (H : Heap) (locs : List Loc) (ls : Array Slot), va_P D vwCl (cw_w C L K z r A) H → va_D Ad (cw_w C L K z r A) → va_S Ad s.heap H locs → lv_has ls 6 [(0, .ref y0), (1, .ref y1), (2, .ref y2), (4, .ref y4), (5, .int (hz_i x5))] → W p l e (headSpec wsX6_meet ({ frames := 4, cells := 0, slots := 0, locals := 101 } : Room)).room s m (List.toArray [.ref y0, .ref y1, .ref y2, .ref y3, .ref y4]) below meth c H locs 0 0 QQ (F0 m 16 ls []), fun _ _ _ => Iff.rfl⟩
    refine (hP16 z A x5).mp (hw P16 ?_)
    intro z A x5 hw
    refine (hP16 z A x5).mpr ?_
    intro H locs ls hP hD hS hl
    refine lv_iload hx hb dX6_meet_16 (lv_at hl 4 rfl) ?_
    refine lv_aload_n hx hb dX6_meet_18 rfl (lv_at hl 1 rfl) ?_
    obtain ⟨hO_1, hw⟩ := hw
    refine cw_get (ci := 2) (v := .ref (r y1 1)) hx hb hts hin2 hown hK hP hO_1.1 hO_1.2 rfl 1 (by decide) (hts (.fieldLink RX6 43 "HiddenMoves$Game" "sides" "[LHiddenMoves$Side;") (List.mem_cons_of_mem _ (List.mem_append_left _ (List.mem_append_left _ (List.mem_append_left _ (List.mem_append_left _ (List.mem_append_left _ (List.mem_append_left _ (List.mem_of_getElem? (i := 0) rfl))))))))) (fun _ h9 => h9) rfl dX6_meet_19 ?_
    refine lv_iconst (v := hz_i 0) hx hb dX6_meet_22 (by decide +kernel) ?_
    obtain ⟨hO_2, hw⟩ := hw
    obtain ⟨h9i, hw⟩ := hw
    refine cw_ald hx hb hK hP hO_2.1 hO_2.2.2 rfl h9i hO_2.2.1 dX6_meet_23 ?_
    obtain ⟨hO_3, hw⟩ := hw
    refine cw_get (ci := 7) (v := .int (hz_i (z (cw_g K (r y1 1) ((0 : Int).toNat)) 5))) hx hb hts hin7 hown hK hP hO_3.1 hO_3.2 rfl 5 (by decide) (hts (.fieldLink RX6 49 "HiddenMoves$Side" "lines" "I") (List.mem_cons_of_mem _ (List.mem_append_left _ (List.mem_append_left _ (List.mem_append_left _ (List.mem_append_left _ (List.mem_append_left _ (List.mem_append_left _ (List.mem_of_getElem? (i := 1) rfl))))))))) (fun _ h9 => h9) rfl dX6_meet_24 ?_
    obtain ⟨h9a, hw⟩ := hw
    obtain ⟨h9b, hw⟩ := hw
    refine hz_icmp_ge (tgt := 66) hx hb dX6_meet_27 (by decide) h9a h9b (fun c_4 => ?_) (fun c_4 => ?_)
    · have hw := hw.1 c_4
      subst hQQ
      subst hAe
      exact W.vret hx hb hr (fun t ht hW => ⟨⟨(0, z, r, A), rfl, hw, by rw [ht]; exact hP, va_K.moved hW.alike hK, hD⟩, hS.F ht⟩) hS.2.2 dX6_meet_66
    · have hw := hw.2 c_4
      refine lv_aload_n hx hb dX6_meet_30 rfl (lv_at hl 0 rfl) ?_
      obtain ⟨hO_5, hw⟩ := hw
      refine cw_get (ci := 6) (v := .ref (r y0 4)) hx hb hts hin6 hown hK hP hO_5.1 hO_5.2 rfl 4 (by decide) (hts (.fieldLink RX6 32 "HiddenMoves$Reply" "term" "LHiddenMoves$Big;") (List.mem_cons_of_mem _ (List.mem_append_left _ (List.mem_append_left _ (List.mem_append_left _ (List.mem_append_left _ (List.mem_append_left _ (List.mem_append_left _ (List.mem_of_getElem? (i := 2) rfl))))))))) (fun _ h9 => h9) rfl dX6_meet_31 ?_
      refine lv_aload_n hx hb dX6_meet_34 rfl (lv_at hl 0 rfl) ?_
      refine cw_get (ci := 6) (v := .ref (r y0 2)) hx hb hts hin6 hown hK hP hO_5.1 hO_5.2 rfl 2 (by decide) (hts (.fieldLink RX6 21 "HiddenMoves$Reply" "gains" "[LHiddenMoves$Big;") (List.mem_cons_of_mem _ (List.mem_append_left _ (List.mem_append_left _ (List.mem_append_left _ (List.mem_append_left _ (List.mem_append_left _ (List.mem_append_left _ (List.mem_of_getElem? (i := 3) rfl))))))))) (fun _ h9 => h9) rfl dX6_meet_35 ?_
      refine lv_iload hx hb dX6_meet_38 (lv_at hl 4 rfl) ?_
      obtain ⟨hO_6, hw⟩ := hw
      obtain ⟨h9i, hw⟩ := hw
      refine cw_ald hx hb hK hP hO_6.1 hO_6.2.2 rfl h9i hO_6.2.1 dX6_meet_40 ?_
      refine lv_aload_n hx hb dX6_meet_41 rfl (lv_at hl 2 rfl) ?_
      obtain ⟨hO_7, hw⟩ := hw
      refine cw_get (ci := 3) (v := .ref (r y2 0)) hx hb hts hin3 hown hK hP hO_7.1 hO_7.2 rfl 0 (by decide) (hts (.fieldLink RX6 55 "HiddenMoves$Mix" "parts" "[LHiddenMoves$Big;") (List.mem_cons_of_mem _ (List.mem_append_left _ (List.mem_append_left _ (List.mem_append_left _ (List.mem_append_left _ (List.mem_append_left _ (List.mem_append_left _ (List.mem_of_getElem? (i := 4) rfl))))))))) (fun _ h9 => h9) rfl dX6_meet_42 ?_
      refine lv_iload hx hb dX6_meet_45 (lv_at hl 4 rfl) ?_
      obtain ⟨hO_8, hw⟩ := hw
      obtain ⟨h9i, hw⟩ := hw
      refine cw_ald hx hb hK hP hO_8.1 hO_8.2.2 rfl h9i hO_8.2.1 dX6_meet_47 ?_
      obtain ⟨hO_12, hw⟩ := hw
      have hFc := cw_free hD hS hA
      obtain ⟨q9, hq9⟩ := cw_at (C := C) (z := z) (r := r) (A := A) hO_12.1 hO_12.2
      refine va_callv (va_runV (As := [.ref (cw_g K (r y0 2) (x5.toNat)), .ref (cw_g K (r y2 0) (x5.toNat))]) (rest := []) ⟨hx, hb, hml, hown, hts⟩ (k_c0_putProduct l D _ C L K z r A (r y0 4) (cw_g K (r y0 2) (x5.toNat)) (cw_g K (r y2 0) (x5.toNat)) _ hw) (cwV 2 hts gX6_meet_X0_putProduct rfl rfl rfl (by decide +kernel) ⟨Nat.le_of_ble_eq_true rfl, Nat.le_of_ble_eq_true rfl⟩) ⟨hm_blind, va_recv hK hP (ci := 0) (q0 := q9) rfl hq9, hm_pre hP hK hD hE⟩ rfl rfl hl.1 rfl (lv_room (Nat.le_of_ble_eq_true rfl)) dX6_meet_48 ⟨Nat.le_of_ble_eq_true rfl, Nat.le_of_ble_eq_true rfl⟩) hS (fun q _ h => hFc q h) hFc (fun u t H1 locs ht hvm hw hB hz1 hk1 hS => ?_)
      obtain ⟨rv_9, z_10, _, A_11⟩ := u
      obtain ⟨hP, hK1, hD1⟩ := hB
      rw [ht] at hP
      have hD := hD1.weaken (fun k q _ h => hFc q.1 h)
      have hP : va_P D vwCl (cw_w C L K z_10 r A_11) H1 := hP
      have hD : va_D Ad (cw_w C L K z_10 r A_11) := hD
      generalize H1 = H at hP hS ⊢
      refine W.eq (g2 := F0 m 51 ls []) rfl ?_
      refine lv_aload hx hb dX6_meet_51 (lv_at hl 3 rfl) ?_
      refine lv_aload_n hx hb dX6_meet_53 rfl (lv_at hl 0 rfl) ?_
      refine cw_get (ci := 6) (v := .ref (r y0 4)) hx hb hts hin6 hown hK hP hO_5.1 hO_5.2 rfl 4 (by decide) (hts (.fieldLink RX6 32 "HiddenMoves$Reply" "term" "LHiddenMoves$Big;") (List.mem_cons_of_mem _ (List.mem_append_left _ (List.mem_append_left _ (List.mem_append_left _ (List.mem_append_left _ (List.mem_append_left _ (List.mem_append_left _ (List.mem_of_getElem? (i := 2) rfl))))))))) (fun _ h9 => h9) rfl dX6_meet_54 ?_
      obtain ⟨hO_16, hw⟩ := hw
      have hFc := cw_free hD hS hA
      obtain ⟨q9, hq9⟩ := cw_at (C := C) (z := z_10) (r := r) (A := A_11) hO_16.1 hO_16.2
      refine va_callv (va_runV (As := [.ref (r y0 4)]) (rest := []) ⟨hx, hb, hml, hown, hts⟩ (k_c0_plus l D _ C L K z_10 r A_11 y4 (r y0 4) _ hw) (cwV 1 hts gX6_meet_X0_plus rfl rfl rfl (by decide +kernel) ⟨Nat.le_of_ble_eq_true rfl, Nat.le_of_ble_eq_true rfl⟩) ⟨hm_blind, va_recv hK hP (ci := 0) (q0 := q9) rfl hq9, hm_pre hP hK hD hE⟩ rfl rfl hl.1 rfl (lv_room (Nat.le_of_ble_eq_true rfl)) dX6_meet_57 ⟨Nat.le_of_ble_eq_true rfl, Nat.le_of_ble_eq_true rfl⟩) hS (fun q _ h => hFc q h) hFc (fun u t H1 locs ht hvm hw hB hz1 hk1 hS => ?_)
      obtain ⟨rv_13, z_14, _, A_15⟩ := u
      obtain ⟨hP, hK1, hD1⟩ := hB
      rw [ht] at hP
      have hD := hD1.weaken (fun k q _ h => hFc q.1 h)
      have hP : va_P D vwCl (cw_w C L K z_14 r A_15) H1 := hP
      have hD : va_D Ad (cw_w C L K z_14 r A_15) := hD
      generalize H1 = H at hP hS ⊢
      refine W.eq (g2 := F0 m 60 ls []) rfl ?_
      obtain ⟨x5_17, hx5_17⟩ : ∃ y : Int, y = x5 + 1 := ⟨_, rfl⟩
      have hw := hw x5_17 hx5_17
      refine lv_iinc (v := hz_i x5_17) (lv' := [(5, .int (hz_i x5_17)), (0, .ref y0), (1, .ref y1), (2, .ref y2), (4, .ref y4)]) hx hb dX6_meet_60 hl (k := 4) rfl (by rw [hx5_17]; exact hz_i_add _ _) (by decide) rfl (fun ls hl => ?_)
      refine lv_goto (tgt := 16) hx hb dX6_meet_63 (by decide) ?_
      exact (hP16 z_14 A_15 x5_17).mp hw H locs ls hP hD hS (lv_sub hl [1, 2, 3, 4, 0] rfl)
  have hP := hP0; have hD := hD0; have hS := hS0; have hl := hl0; have hw := hw0
  obtain ⟨H, hH⟩ : ∃ H : Heap, H = s.heap := ⟨_, rfl⟩
  obtain ⟨locs, hlocs⟩ : ∃ L : List Loc, L = [] := ⟨_, rfl⟩
  rw [← hH] at hP
  have hS : va_S Ad s.heap H locs := by rw [hH, hlocs]; exact hS
  refine mw_HL hH hlocs ?_
  refine lv_aload_n hx hb dX6_meet_0 rfl (lv_at hl 0 rfl) ?_
  refine lv_aload_n hx hb dX6_meet_1 rfl (lv_at hl 1 rfl) ?_
  refine lv_iconst (v := hz_i 0) hx hb dX6_meet_2 (by decide +kernel) ?_
  refine lv_aload_n hx hb dX6_meet_3 rfl (lv_at hl 3 rfl) ?_
  obtain ⟨hO_21, hw⟩ := hw
  have hFc := cw_free hD hS hA
  obtain ⟨q9, hq9⟩ := cw_at (C := C) (z := z) (r := r) (A := A) hO_21.1 hO_21.2
  refine va_callv (va_runV (As := [.ref y1, .int (hz_i 0), .ref y3]) (rest := []) ⟨hx, hb, hml, hown, hts⟩ (k_c6_gather l D _ C L K z r A y0 y1 0 y3 _ hw) (cwV 3 hts gX6_meet_X6_gather rfl rfl rfl (by decide +kernel) ⟨Nat.le_of_ble_eq_true rfl, Nat.le_of_ble_eq_true rfl⟩) ⟨hm_blind, va_recv hK hP (ci := 6) (q0 := q9) rfl hq9, hm_pre hP hK hD hE⟩ rfl rfl hl.1 rfl (lv_room (Nat.le_of_ble_eq_true rfl)) dX6_meet_4 ⟨Nat.le_of_ble_eq_true rfl, Nat.le_of_ble_eq_true rfl⟩) hS (fun q _ h => hFc q h) hFc (fun u t H1 locs ht hvm hw hB hz1 hk1 hS => ?_)
  obtain ⟨rv_18, z_19, _, A_20⟩ := u
  obtain ⟨hP, hK1, hD1⟩ := hB
  rw [ht] at hP
  have hD := hD1.weaken (fun k q _ h => hFc q.1 h)
  have hP : va_P D vwCl (cw_w C L K z_19 r A_20) H1 := hP
  have hD : va_D Ad (cw_w C L K z_19 r A_20) := hD
  generalize H1 = H at hP hS ⊢
  refine W.eq (g2 := F0 m 7 ls []) rfl ?_
  refine lv_aload hx hb dX6_meet_7 (lv_at hl 4 rfl) ?_
  refine lv_lconst (v := hz_l 0) hx hb dX6_meet_9 (by decide +kernel) ?_
  obtain ⟨hO_25, hw⟩ := hw
  have hFc := cw_free hD hS hA
  obtain ⟨q9, hq9⟩ := cw_at (C := C) (z := z_19) (r := r) (A := A_20) hO_25.1 hO_25.2
  refine va_callv (va_runV (As := [.long (hz_l 0)]) (rest := []) ⟨hx, hb, hml, hown, hts⟩ (k_c0_put l D _ C L K z_19 r A_20 y4 0 _ hw) (cwV 1 hts gX6_meet_X0_put rfl rfl rfl (by decide +kernel) ⟨Nat.le_of_ble_eq_true rfl, Nat.le_of_ble_eq_true rfl⟩) ⟨hm_blind, va_recv hK hP (ci := 0) (q0 := q9) rfl hq9, hm_pre hP hK hD hE⟩ rfl rfl hl.1 rfl (lv_room (Nat.le_of_ble_eq_true rfl)) dX6_meet_10 ⟨Nat.le_of_ble_eq_true rfl, Nat.le_of_ble_eq_true rfl⟩) hS (fun q _ h => hFc q h) hFc (fun u t H1 locs ht hvm hw hB hz1 hk1 hS => ?_)
  obtain ⟨rv_22, z_23, _, A_24⟩ := u
  obtain ⟨hP, hK1, hD1⟩ := hB
  rw [ht] at hP
  have hD := hD1.weaken (fun k q _ h => hFc q.1 h)
  have hP : va_P D vwCl (cw_w C L K z_23 r A_24) H1 := hP
  have hD : va_D Ad (cw_w C L K z_23 r A_24) := hD
  generalize H1 = H at hP hS ⊢
  refine W.eq (g2 := F0 m 13 ls []) rfl ?_
  refine lv_iconst (v := hz_i 0) hx hb dX6_meet_13 (by decide +kernel) ?_
  refine lv_istore (lv' := [(5, .int (hz_i 0)), (0, .ref y0), (1, .ref y1), (2, .ref y2), (3, .ref y3), (4, .ref y4)]) hx hb dX6_meet_14 hl (by decide) rfl (fun ls hl => ?_)
  exact L16 z_23 A_24 0 hw H locs ls hP hD hS (lv_sub hl [1, 2, 3, 5, 0] rfl)

noncomputable def wp_c11_isPlayer_15 (L : List Nat) (K : Nat → cw_K) (z : Nat → Nat → Int) (r : Nat → Nat → Nat) (A : Nat → Nat → Int) (t0 : Int) (Q : Int → Prop) : Prop := (t0 = 0 ∨ t0 = 1) ∧ Q t0
noncomputable def wp_c11_isPlayer_10 (L : List Nat) (K : Nat → cw_K) (z : Nat → Nat → Int) (r : Nat → Nat → Nat) (A : Nat → Nat → Int) (Q : Int → Prop) : Prop := wp_c11_isPlayer_15 L K z r A 1  Q
noncomputable def wp_c11_isPlayer (L : List Nat) (K : Nat → cw_K) (z : Nat → Nat → Int) (r : Nat → Nat → Nat) (A : Nat → Nat → Int) (y0 : Int) (Q : Int → Prop) : Prop := hz_rI y0 ∧ ((y0 = 1 → wp_c11_isPlayer_10 L K z r A  Q) ∧ (¬ (y0 = 1) → hz_rI y0 ∧ ((¬ y0 = 2 → wp_c11_isPlayer_15 L K z r A 0  Q) ∧ (y0 = 2 → wp_c11_isPlayer_10 L K z r A  Q))))
set_option maxHeartbeats 4000000 in
set_option maxRecDepth 100000 in
theorem k_c11_isPlayer (l : Launch) (D : va_G) (sz : Nat) (C : Nat → ClassId) (L : List Nat) (K : Nat → cw_K) (z : Nat → Nat → Int) (r : Nat → Nat → Nat) (A : Nat → Nat → Int) (y0 : Int) (Q : Int → Prop) (hw : wp_c11_isPlayer L K z r A y0 Q) : Met l yX11_isPlayer wsX11_isPlayer ({ frames := 0, cells := 0, slots := 0, locals := 0 } : Room) (va_Pc [.int (hz_i y0)] (hm_P D (cw_w C L K z r A) (cw_t C) sz)) (va_Qi (S := Int × (Nat → Nat → Int) × (Nat → Nat → Nat) × (Nat → Nat → Int)) (fun r u => r = hz_i u.1 ∧ Q u.1) (fun u t => hm_B D (va_A (cw_w C L K z r A) sz) (cw_w C L K z r A) (cw_t C) t) (va_A (cw_w C L K z r A) sz)) 0 0 (va_A (cw_w C L K z r A) sz) := by
  refine Met.ofW (cc := cX11_isPlayer) (maxL := 1) (ret := (some .boolean)) (by decide) rfl ?_
  intro p e s m args below meth c s₁ B hml hv
  obtain ⟨rfl, hsz, hP, hK, hD0, hE⟩ := hv
  have hx := B.exec
  have hb := B.bytes
  have hr := B.returns
  have hts := atoms_spec (ws := wsX11_isPlayer) B.pre
  have hown : s.vm.findClass RX11 = some m.cls := findClass_of_methodNamed B.named
  have hlocks := B.notSynchronized
  subst hsz
  have hD := hD0.self (sz := s.heap.size)
  generalize hAe : va_A (cw_w C L K z r A) s.heap.size = Ad at hD ⊢
  have hA : ∀ q : Nat, s.heap.size ≤ q → Ad q := fun q h => by rw [← hAe]; exact Or.inr h
  have hS : va_S Ad s.heap s.heap [] := va_S.rf
  have hl := lv_entry ([.int (hz_i y0)]) (n := 1) (Nat.le_of_ble_eq_true rfl)
  rw [lg_entry_eq]
  generalize (lg_sl ([.int (hz_i y0)]) ++ List.replicate (1 - (lg_sl ([.int (hz_i y0)])).length) Slot.unset).toArray = ls at hl ⊢
  have hl : lv_has ls 1 [(0, .int (hz_i y0))] := hl
  refine mw_Q (fun QQ hQQ => ?_)
  have hP0 := hP; have hD0 := hD; have hS0 := hS; have hl0 := hl; have hw0 := hw
  clear hP hD hS hl hw
  have L15 : ∀ (t0 : Int), wp_c11_isPlayer_15 L K z r A t0  Q → ∀ (H : Heap) (locs : List Loc) (ls : Array Slot), va_P D vwCl (cw_w C L K z r A) H → va_D Ad (cw_w C L K z r A) → va_S Ad s.heap H locs → lv_has ls 1 [] → W p l e (headSpec wsX11_isPlayer ({ frames := 0, cells := 0, slots := 0, locals := 0 } : Room)).room s m (List.toArray [.int (hz_i y0)]) below meth c H locs 0 0 QQ (F0 m 15 ls [.int (hz_i t0)]) := by
    intro t0 hw H locs ls hP hD hS hl
    obtain ⟨h9z, hw⟩ := hw
    subst hQQ
    subst hAe
    exact W.zret (v := hz_i t0) hx hb hr (hz_tZ h9z) (fun t ht hW => ⟨⟨hz_i t0, (t0, z, r, A), rfl, ⟨rfl, hw⟩, by rw [ht]; exact hP, va_K.moved hW.alike hK, hD⟩, hS.F ht⟩) hS.2.2 dX11_isPlayer_15
  have L10 : wp_c11_isPlayer_10 L K z r A  Q → ∀ (H : Heap) (locs : List Loc) (ls : Array Slot), va_P D vwCl (cw_w C L K z r A) H → va_D Ad (cw_w C L K z r A) → va_S Ad s.heap H locs → lv_has ls 1 [] → W p l e (headSpec wsX11_isPlayer ({ frames := 0, cells := 0, slots := 0, locals := 0 } : Room)).room s m (List.toArray [.int (hz_i y0)]) below meth c H locs 0 0 QQ (F0 m 10 ls []) := by
    intro  hw H locs ls hP hD hS hl
    refine lv_iconst (v := hz_i 1) hx hb dX11_isPlayer_10 (by decide +kernel) ?_
    refine lv_goto (tgt := 15) hx hb dX11_isPlayer_11 (by decide) ?_
    exact L15 1 hw H locs ls hP hD hS (lv_sub hl [] rfl)
  have hP := hP0; have hD := hD0; have hS := hS0; have hl := hl0; have hw := hw0
  obtain ⟨H, hH⟩ : ∃ H : Heap, H = s.heap := ⟨_, rfl⟩
  obtain ⟨locs, hlocs⟩ : ∃ L : List Loc, L = [] := ⟨_, rfl⟩
  rw [← hH] at hP
  have hS : va_S Ad s.heap H locs := by rw [hH, hlocs]; exact hS
  refine mw_HL hH hlocs ?_
  refine lv_iload_n hx hb dX11_isPlayer_0 rfl (lv_at hl 0 rfl) ?_
  refine lv_iconst (v := hz_i 1) hx hb dX11_isPlayer_1 (by decide +kernel) ?_
  obtain ⟨h9a, hw⟩ := hw
  refine hz_icmp_eq (tgt := 10) hx hb dX11_isPlayer_2 (by decide) h9a ⟨by decide, by decide⟩ (fun c_1 => ?_) (fun c_1 => ?_)
  · have hw := hw.1 c_1
    exact L10  hw H locs ls hP hD hS (lv_sub hl [] rfl)
  · have hw := hw.2 c_1
    refine lv_iload_n hx hb dX11_isPlayer_5 rfl (lv_at hl 0 rfl) ?_
    refine lv_iconst (v := hz_i 2) hx hb dX11_isPlayer_6 (by decide +kernel) ?_
    obtain ⟨h9a, hw⟩ := hw
    refine hz_icmp_ne (tgt := 14) hx hb dX11_isPlayer_7 (by decide) h9a ⟨by decide, by decide⟩ (fun c_2 => ?_) (fun c_2 => ?_)
    · have hw := hw.1 c_2
      refine lv_iconst (v := hz_i 0) hx hb dX11_isPlayer_14 (by decide +kernel) ?_
      exact L15 0 hw H locs ls hP hD hS (lv_sub hl [] rfl)
    · have hw := hw.2 c_2
      exact L10  hw H locs ls hP hD hS (lv_sub hl [] rfl)

noncomputable def wp_c11_isPlaying_19 (L : List Nat) (K : Nat → cw_K) (z : Nat → Nat → Int) (r : Nat → Nat → Nat) (A : Nat → Nat → Int) (t0 : Int) (Q : Int → Prop) : Prop := (t0 = 0 ∨ t0 = 1) ∧ Q t0
noncomputable def wp_c11_isPlaying_18 (L : List Nat) (K : Nat → cw_K) (z : Nat → Nat → Int) (r : Nat → Nat → Nat) (A : Nat → Nat → Int) (Q : Int → Prop) : Prop := wp_c11_isPlaying_19 L K z r A 0  Q
noncomputable def wp_c11_isPlaying (L : List Nat) (K : Nat → cw_K) (z : Nat → Nat → Int) (r : Nat → Nat → Nat) (A : Nat → Nat → Int) (y0 : Nat) (y1 : Int) (Q : Int → Prop) : Prop := cw_O L K 11 y0 ∧ hz_rI (z y0 14) ∧ ((z y0 14 = 0 → wp_c11_isPlaying_18 L K z r A  Q) ∧ (¬ (z y0 14 = 0) → wp_c11_isPlayer L K z r A y1 (fun rv_3 => hz_rI rv_3 ∧ ((rv_3 = 0 → wp_c11_isPlaying_18 L K z r A  Q) ∧ (¬ (rv_3 = 0) → wp_c11_isPlaying_19 L K z r A 1  Q)))))
set_option maxHeartbeats 4000000 in
set_option maxRecDepth 100000 in
theorem k_c11_isPlaying (l : Launch) (D : va_G) (sz : Nat) (C : Nat → ClassId) (L : List Nat) (K : Nat → cw_K) (z : Nat → Nat → Int) (r : Nat → Nat → Nat) (A : Nat → Nat → Int) (y0 : Nat) (y1 : Int) (Q : Int → Prop) (hw : wp_c11_isPlaying L K z r A y0 y1 Q) : Met l yX11_isPlaying wsX11_isPlaying ({ frames := 1, cells := 0, slots := 0, locals := 20 } : Room) (va_Pc [.ref y0, .int (hz_i y1)] (hm_P D (cw_w C L K z r A) (cw_t C) sz)) (va_Qi (S := Int × (Nat → Nat → Int) × (Nat → Nat → Nat) × (Nat → Nat → Int)) (fun r u => r = hz_i u.1 ∧ Q u.1) (fun u t => hm_B D (va_A (cw_w C L K z r A) sz) (cw_w C L K z r A) (cw_t C) t) (va_A (cw_w C L K z r A) sz)) 0 0 (va_A (cw_w C L K z r A) sz) := by
  refine Met.ofW (cc := cX11_isPlaying) (maxL := 2) (ret := (some .boolean)) (by decide) rfl ?_
  intro p e s m args below meth c s₁ B hml hv
  obtain ⟨rfl, hsz, hP, hK, hD0, hE⟩ := hv
  have hx := B.exec
  have hb := B.bytes
  have hr := B.returns
  have hts := atoms_spec (ws := wsX11_isPlaying) B.pre
  have hown : s.vm.findClass RX11 = some m.cls := findClass_of_methodNamed B.named
  have hlocks := B.notSynchronized
  have hin11 : ∀ w ∈ u_ws RX11 TX11 16, w ∈ wsX11_isPlaying := fun w h => List.mem_cons_of_mem _ (List.mem_append_right _ (h))
  subst hsz
  have hD := hD0.self (sz := s.heap.size)
  generalize hAe : va_A (cw_w C L K z r A) s.heap.size = Ad at hD ⊢
  have hA : ∀ q : Nat, s.heap.size ≤ q → Ad q := fun q h => by rw [← hAe]; exact Or.inr h
  have hS : va_S Ad s.heap s.heap [] := va_S.rf
  have hl := lv_entry ([.ref y0, .int (hz_i y1)]) (n := 2) (Nat.le_of_ble_eq_true rfl)
  rw [lg_entry_eq]
  generalize (lg_sl ([.ref y0, .int (hz_i y1)]) ++ List.replicate (2 - (lg_sl ([.ref y0, .int (hz_i y1)])).length) Slot.unset).toArray = ls at hl ⊢
  have hl : lv_has ls 2 [(0, .ref y0), (1, .int (hz_i y1))] := hl
  refine mw_Q (fun QQ hQQ => ?_)
  have hP0 := hP; have hD0 := hD; have hS0 := hS; have hl0 := hl; have hw0 := hw
  clear hP hD hS hl hw
  have L19 : ∀ (t0 : Int), wp_c11_isPlaying_19 L K z r A t0  Q → ∀ (H : Heap) (locs : List Loc) (ls : Array Slot), va_P D vwCl (cw_w C L K z r A) H → va_D Ad (cw_w C L K z r A) → va_S Ad s.heap H locs → lv_has ls 2 [] → W p l e (headSpec wsX11_isPlaying ({ frames := 1, cells := 0, slots := 0, locals := 20 } : Room)).room s m (List.toArray [.ref y0, .int (hz_i y1)]) below meth c H locs 0 0 QQ (F0 m 19 ls [.int (hz_i t0)]) := by
    intro t0 hw H locs ls hP hD hS hl
    obtain ⟨h9z, hw⟩ := hw
    subst hQQ
    subst hAe
    exact W.zret (v := hz_i t0) hx hb hr (hz_tZ h9z) (fun t ht hW => ⟨⟨hz_i t0, (t0, z, r, A), rfl, ⟨rfl, hw⟩, by rw [ht]; exact hP, va_K.moved hW.alike hK, hD⟩, hS.F ht⟩) hS.2.2 dX11_isPlaying_19
  have L18 : wp_c11_isPlaying_18 L K z r A  Q → ∀ (H : Heap) (locs : List Loc) (ls : Array Slot), va_P D vwCl (cw_w C L K z r A) H → va_D Ad (cw_w C L K z r A) → va_S Ad s.heap H locs → lv_has ls 2 [] → W p l e (headSpec wsX11_isPlaying ({ frames := 1, cells := 0, slots := 0, locals := 20 } : Room)).room s m (List.toArray [.ref y0, .int (hz_i y1)]) below meth c H locs 0 0 QQ (F0 m 18 ls []) := by
    intro  hw H locs ls hP hD hS hl
    refine lv_iconst (v := hz_i 0) hx hb dX11_isPlaying_18 (by decide +kernel) ?_
    exact L19 0 hw H locs ls hP hD hS (lv_sub hl [] rfl)
  have hP := hP0; have hD := hD0; have hS := hS0; have hl := hl0; have hw := hw0
  obtain ⟨H, hH⟩ : ∃ H : Heap, H = s.heap := ⟨_, rfl⟩
  obtain ⟨locs, hlocs⟩ : ∃ L : List Loc, L = [] := ⟨_, rfl⟩
  rw [← hH] at hP
  have hS : va_S Ad s.heap H locs := by rw [hH, hlocs]; exact hS
  refine mw_HL hH hlocs ?_
  refine lv_aload_n hx hb dX11_isPlaying_0 rfl (lv_at hl 0 rfl) ?_
  obtain ⟨hO_1, hw⟩ := hw
  refine cw_get (ci := 11) (v := .int (hz_i (z y0 14))) hx hb hts hin11 hown hK hP hO_1.1 hO_1.2 rfl 14 (by decide) (hts (.fieldLink RX11 87 "HiddenMoves" "hasGame" "Z") (List.mem_cons_of_mem _ (List.mem_append_left _ (List.mem_of_getElem? (i := 0) rfl)))) (fun _ h9 => h9) rfl dX11_isPlaying_1 ?_
  obtain ⟨h9a, hw⟩ := hw
  refine hz_if_eq (tgt := 18) hx hb dX11_isPlaying_4 (by decide) h9a (fun c_2 => ?_) (fun c_2 => ?_)
  · have hw := hw.1 c_2
    exact L18  hw H locs ls hP hD hS (lv_sub hl [] rfl)
  · have hw := hw.2 c_2
    refine lv_iload_n hx hb dX11_isPlaying_7 rfl (lv_at hl 1 rfl) ?_
    have hFc := cw_free hD hS hA
    refine va_calli (va_runS (As := [.int (hz_i y1)]) (rest := []) ⟨hx, hb, hml, hown, hts⟩ (k_c11_isPlayer l D _ C L K z r A y1 _ hw) (va_cwS 1 hts gX11_isPlaying_X11_isPlayer rfl rfl rfl (by decide +kernel) ⟨Nat.le_of_ble_eq_true rfl, Nat.le_of_ble_eq_true rfl⟩) ⟨hm_blind, hm_pre hP hK hD hE⟩ rfl rfl hl.1 rfl (lv_room (Nat.le_of_ble_eq_true rfl)) dX11_isPlaying_8 ⟨Nat.le_of_ble_eq_true rfl, Nat.le_of_ble_eq_true rfl⟩) hS (fun q _ h => hFc q h) hFc (fun rv u t H1 locs ht hvm hw hB hz1 hk1 hS => ?_)
    obtain ⟨rv_3, _, _, _⟩ := u
    obtain ⟨hP, hK1, hD1⟩ := hB
    rw [ht] at hP
    obtain ⟨hrv, hw⟩ := hw
    subst hrv
    have hD := hD1.weaken (fun k q _ h => hFc q.1 h)
    have hP : va_P D vwCl (cw_w C L K z r A) H1 := hP
    have hD : va_D Ad (cw_w C L K z r A) := hD
    generalize H1 = H at hP hS ⊢
    refine W.eq (g2 := F0 m 11 ls [.int (hz_i rv_3)]) rfl ?_
    obtain ⟨h9a, hw⟩ := hw
    refine hz_if_eq (tgt := 18) hx hb dX11_isPlaying_11 (by decide) h9a (fun c_4 => ?_) (fun c_4 => ?_)
    · have hw := hw.1 c_4
      exact L18  hw H locs ls hP hD hS (lv_sub hl [] rfl)
    · have hw := hw.2 c_4
      refine lv_iconst (v := hz_i 1) hx hb dX11_isPlaying_14 (by decide +kernel) ?_
      refine lv_goto (tgt := 19) hx hb dX11_isPlaying_15 (by decide) ?_
      exact L19 1 hw H locs ls hP hD hS (lv_sub hl [] rfl)

noncomputable def wp_c11_good_25 (L : List Nat) (K : Nat → cw_K) (z : Nat → Nat → Int) (r : Nat → Nat → Nat) (A : Nat → Nat → Int) (t0 : Int) (Q : Int → Prop) : Prop := Q t0
noncomputable def wp_c11_good (L : List Nat) (K : Nat → cw_K) (z : Nat → Nat → Int) (r : Nat → Nat → Nat) (A : Nat → Nat → Int) (y0 : Nat) (y1 : Int) (Q : Int → Prop) : Prop := cw_O L K 11 y0 ∧ wp_c11_isPlaying L K z r A y0 y1 (fun rv_1 => hz_rI rv_1 ∧ ((¬ rv_1 = 0 → wp_c11_isGood L K z r A y0 (y1 - 1) (fun rv_4 => hz_rI rv_4 ∧ ((rv_4 = 0 → wp_c11_good_25 L K z r A 0  Q) ∧ (¬ (rv_4 = 0) → wp_c11_good_25 L K z r A 1  Q)))) ∧ (rv_1 = 0 → Q (-1))))
set_option maxHeartbeats 4000000 in
set_option maxRecDepth 100000 in
theorem k_c11_good (l : Launch) (D : va_G) (sz : Nat) (C : Nat → ClassId) (L : List Nat) (K : Nat → cw_K) (z : Nat → Nat → Int) (r : Nat → Nat → Nat) (A : Nat → Nat → Int) (y0 : Nat) (y1 : Int) (Q : Int → Prop) (hw : wp_c11_good L K z r A y0 y1 Q) : Met l yX11_good wsX11_good ({ frames := 6, cells := 0, slots := 0, locals := 146 } : Room) (va_Pc [.ref y0, .int (hz_i y1)] (hm_P D (cw_w C L K z r A) (cw_t C) sz)) (va_Qi (S := Int × (Nat → Nat → Int) × (Nat → Nat → Nat) × (Nat → Nat → Int)) (fun r u => r = hz_i u.1 ∧ Q u.1) (fun u t => hm_B D (va_A (cw_w C L K z r A) sz) (cw_w C L K z r A) (cw_t C) t) (va_A (cw_w C L K z r A) sz)) 0 0 (va_A (cw_w C L K z r A) sz) := by
  refine Met.ofW (cc := cX11_good) (maxL := 2) (ret := (some .int)) (by decide) rfl ?_
  intro p e s m args below meth c s₁ B hml hv
  obtain ⟨rfl, hsz, hP, hK, hD0, hE⟩ := hv
  have hx := B.exec
  have hb := B.bytes
  have hr := B.returns
  have hts := atoms_spec (ws := wsX11_good) B.pre
  have hown : s.vm.findClass RX11 = some m.cls := findClass_of_methodNamed B.named
  have hlocks := B.notSynchronized
  subst hsz
  have hD := hD0.self (sz := s.heap.size)
  generalize hAe : va_A (cw_w C L K z r A) s.heap.size = Ad at hD ⊢
  have hA : ∀ q : Nat, s.heap.size ≤ q → Ad q := fun q h => by rw [← hAe]; exact Or.inr h
  have hS : va_S Ad s.heap s.heap [] := va_S.rf
  have hl := lv_entry ([.ref y0, .int (hz_i y1)]) (n := 2) (Nat.le_of_ble_eq_true rfl)
  rw [lg_entry_eq]
  generalize (lg_sl ([.ref y0, .int (hz_i y1)]) ++ List.replicate (2 - (lg_sl ([.ref y0, .int (hz_i y1)])).length) Slot.unset).toArray = ls at hl ⊢
  have hl : lv_has ls 2 [(0, .ref y0), (1, .int (hz_i y1))] := hl
  refine mw_Q (fun QQ hQQ => ?_)
  have hP0 := hP; have hD0 := hD; have hS0 := hS; have hl0 := hl; have hw0 := hw
  clear hP hD hS hl hw
  have L25 : ∀ (t0 : Int), wp_c11_good_25 L K z r A t0  Q → ∀ (H : Heap) (locs : List Loc) (ls : Array Slot), va_P D vwCl (cw_w C L K z r A) H → va_D Ad (cw_w C L K z r A) → va_S Ad s.heap H locs → lv_has ls 2 [] → W p l e (headSpec wsX11_good ({ frames := 6, cells := 0, slots := 0, locals := 146 } : Room)).room s m (List.toArray [.ref y0, .int (hz_i y1)]) below meth c H locs 0 0 QQ (F0 m 25 ls [.int (hz_i t0)]) := by
    intro t0 hw H locs ls hP hD hS hl
    subst hQQ
    subst hAe
    exact W.iret (v := hz_i t0) hx hb hr (fun t ht hW => ⟨⟨hz_i t0, (t0, z, r, A), rfl, ⟨rfl, hw⟩, by rw [ht]; exact hP, va_K.moved hW.alike hK, hD⟩, hS.F ht⟩) hS.2.2 dX11_good_25
  have hP := hP0; have hD := hD0; have hS := hS0; have hl := hl0; have hw := hw0
  obtain ⟨H, hH⟩ : ∃ H : Heap, H = s.heap := ⟨_, rfl⟩
  obtain ⟨locs, hlocs⟩ : ∃ L : List Loc, L = [] := ⟨_, rfl⟩
  rw [← hH] at hP
  have hS : va_S Ad s.heap H locs := by rw [hH, hlocs]; exact hS
  refine mw_HL hH hlocs ?_
  refine lv_aload_n hx hb dX11_good_0 rfl (lv_at hl 0 rfl) ?_
  refine lv_iload_n hx hb dX11_good_1 rfl (lv_at hl 1 rfl) ?_
  obtain ⟨hO_2, hw⟩ := hw
  have hFc := cw_free hD hS hA
  obtain ⟨q9, hq9⟩ := cw_at (C := C) (z := z) (r := r) (A := A) hO_2.1 hO_2.2
  refine va_calli (va_runV (As := [.int (hz_i y1)]) (rest := []) ⟨hx, hb, hml, hown, hts⟩ (k_c11_isPlaying l D _ C L K z r A y0 y1 _ hw) (cwV 1 hts gX11_good_X11_isPlaying rfl rfl rfl (by decide +kernel) ⟨Nat.le_of_ble_eq_true rfl, Nat.le_of_ble_eq_true rfl⟩) ⟨hm_blind, va_recv hK hP (ci := 11) (q0 := q9) rfl hq9, hm_pre hP hK hD hE⟩ rfl rfl hl.1 rfl (lv_room (Nat.le_of_ble_eq_true rfl)) dX11_good_2 ⟨Nat.le_of_ble_eq_true rfl, Nat.le_of_ble_eq_true rfl⟩) hS (fun q _ h => hFc q h) hFc (fun rv u t H1 locs ht hvm hw hB hz1 hk1 hS => ?_)
  obtain ⟨rv_1, _, _, _⟩ := u
  obtain ⟨hP, hK1, hD1⟩ := hB
  rw [ht] at hP
  obtain ⟨hrv, hw⟩ := hw
  subst hrv
  have hD := hD1.weaken (fun k q _ h => hFc q.1 h)
  have hP : va_P D vwCl (cw_w C L K z r A) H1 := hP
  have hD : va_D Ad (cw_w C L K z r A) := hD
  generalize H1 = H at hP hS ⊢
  refine W.eq (g2 := F0 m 5 ls [.int (hz_i rv_1)]) rfl ?_
  obtain ⟨h9a, hw⟩ := hw
  refine hz_if_ne (tgt := 10) hx hb dX11_good_5 (by decide) h9a (fun c_3 => ?_) (fun c_3 => ?_)
  · have hw := hw.1 c_3
    refine lv_aload_n hx hb dX11_good_10 rfl (lv_at hl 0 rfl) ?_
    refine lv_iload_n hx hb dX11_good_11 rfl (lv_at hl 1 rfl) ?_
    refine lv_iconst (v := hz_i 1) hx hb dX11_good_12 (by decide +kernel) ?_
    refine hz_isub hx hb dX11_good_13 ?_
    have hFc := cw_free hD hS hA
    obtain ⟨q9, hq9⟩ := cw_at (C := C) (z := z) (r := r) (A := A) hO_2.1 hO_2.2
    refine va_calli (va_runV (As := [.int (hz_i (y1 - 1))]) (rest := []) ⟨hx, hb, hml, hown, hts⟩ (k_c11_isGood l D _ C L K z r A y0 (y1 - 1) _ hw) (cwV 1 hts gX11_good_X11_isGood rfl rfl rfl (by decide +kernel) ⟨Nat.le_of_ble_eq_true rfl, Nat.le_of_ble_eq_true rfl⟩) ⟨hm_blind, va_recv hK hP (ci := 11) (q0 := q9) rfl hq9, hm_pre hP hK hD hE⟩ rfl rfl hl.1 rfl (lv_room (Nat.le_of_ble_eq_true rfl)) dX11_good_14 ⟨Nat.le_of_ble_eq_true rfl, Nat.le_of_ble_eq_true rfl⟩) hS (fun q _ h => hFc q h) hFc (fun rv u t H1 locs ht hvm hw hB hz1 hk1 hS => ?_)
    obtain ⟨rv_4, _, _, _⟩ := u
    obtain ⟨hP, hK1, hD1⟩ := hB
    rw [ht] at hP
    obtain ⟨hrv, hw⟩ := hw
    subst hrv
    have hD := hD1.weaken (fun k q _ h => hFc q.1 h)
    have hP : va_P D vwCl (cw_w C L K z r A) H1 := hP
    have hD : va_D Ad (cw_w C L K z r A) := hD
    generalize H1 = H at hP hS ⊢
    refine W.eq (g2 := F0 m 17 ls [.int (hz_i rv_4)]) rfl ?_
    obtain ⟨h9a, hw⟩ := hw
    refine hz_if_eq (tgt := 24) hx hb dX11_good_17 (by decide) h9a (fun c_5 => ?_) (fun c_5 => ?_)
    · have hw := hw.1 c_5
      refine lv_iconst (v := hz_i 0) hx hb dX11_good_24 (by decide +kernel) ?_
      exact L25 0 hw H locs ls hP hD hS (lv_sub hl [] rfl)
    · have hw := hw.2 c_5
      refine lv_iconst (v := hz_i 1) hx hb dX11_good_20 (by decide +kernel) ?_
      refine lv_goto (tgt := 25) hx hb dX11_good_21 (by decide) ?_
      exact L25 1 hw H locs ls hP hD hS (lv_sub hl [] rfl)
  · have hw := hw.2 c_3
    refine lv_iconst (v := hz_i (-1)) hx hb dX11_good_8 (by decide +kernel) ?_
    subst hQQ
    subst hAe
    exact W.iret (v := hz_i (-1)) hx hb hr (fun t ht hW => ⟨⟨hz_i (-1), ((-1), z, r, A), rfl, ⟨rfl, hw⟩, by rw [ht]; exact hP, va_K.moved hW.alike hK, hD⟩, hS.F ht⟩) hS.2.2 dX11_good_9

noncomputable def wp_c11_place (L : List Nat) (K : Nat → cw_K) (z : Nat → Nat → Int) (r : Nat → Nat → Nat) (A : Nat → Nat → Int) (y0 : Nat) (Q : Int → Prop) : Prop := cw_O L K 11 y0 ∧ Q (z y0 15)
set_option maxHeartbeats 4000000 in
set_option maxRecDepth 100000 in
theorem k_c11_place (l : Launch) (D : va_G) (sz : Nat) (C : Nat → ClassId) (L : List Nat) (K : Nat → cw_K) (z : Nat → Nat → Int) (r : Nat → Nat → Nat) (A : Nat → Nat → Int) (y0 : Nat) (Q : Int → Prop) (hw : wp_c11_place L K z r A y0 Q) : Met l yX11_place wsX11_place ({ frames := 0, cells := 0, slots := 0, locals := 0 } : Room) (va_Pc [.ref y0] (hm_P D (cw_w C L K z r A) (cw_t C) sz)) (va_Qi (S := Int × (Nat → Nat → Int) × (Nat → Nat → Nat) × (Nat → Nat → Int)) (fun r u => r = hz_i u.1 ∧ Q u.1) (fun u t => hm_B D (va_A (cw_w C L K z r A) sz) (cw_w C L K z r A) (cw_t C) t) (va_A (cw_w C L K z r A) sz)) 0 0 (va_A (cw_w C L K z r A) sz) := by
  refine Met.ofW (cc := cX11_place) (maxL := 1) (ret := (some .int)) (by decide) rfl ?_
  intro p e s m args below meth c s₁ B hml hv
  obtain ⟨rfl, hsz, hP, hK, hD0, hE⟩ := hv
  have hx := B.exec
  have hb := B.bytes
  have hr := B.returns
  have hts := atoms_spec (ws := wsX11_place) B.pre
  have hown : s.vm.findClass RX11 = some m.cls := findClass_of_methodNamed B.named
  have hlocks := B.notSynchronized
  have hin11 : ∀ w ∈ u_ws RX11 TX11 16, w ∈ wsX11_place := fun w h => List.mem_cons_of_mem _ (List.mem_append_right _ (h))
  subst hsz
  have hD := hD0.self (sz := s.heap.size)
  generalize hAe : va_A (cw_w C L K z r A) s.heap.size = Ad at hD ⊢
  have hA : ∀ q : Nat, s.heap.size ≤ q → Ad q := fun q h => by rw [← hAe]; exact Or.inr h
  have hS : va_S Ad s.heap s.heap [] := va_S.rf
  have hl := lv_entry ([.ref y0]) (n := 1) (Nat.le_of_ble_eq_true rfl)
  rw [lg_entry_eq]
  generalize (lg_sl ([.ref y0]) ++ List.replicate (1 - (lg_sl ([.ref y0])).length) Slot.unset).toArray = ls at hl ⊢
  have hl : lv_has ls 1 [(0, .ref y0)] := hl
  refine mw_Q (fun QQ hQQ => ?_)
  have hP0 := hP; have hD0 := hD; have hS0 := hS; have hl0 := hl; have hw0 := hw
  clear hP hD hS hl hw
  have hP := hP0; have hD := hD0; have hS := hS0; have hl := hl0; have hw := hw0
  obtain ⟨H, hH⟩ : ∃ H : Heap, H = s.heap := ⟨_, rfl⟩
  obtain ⟨locs, hlocs⟩ : ∃ L : List Loc, L = [] := ⟨_, rfl⟩
  rw [← hH] at hP
  have hS : va_S Ad s.heap H locs := by rw [hH, hlocs]; exact hS
  refine mw_HL hH hlocs ?_
  refine lv_aload_n hx hb dX11_place_0 rfl (lv_at hl 0 rfl) ?_
  obtain ⟨hO_1, hw⟩ := hw
  refine cw_get (ci := 11) (v := .int (hz_i (z y0 15))) hx hb hts hin11 hown hK hP hO_1.1 hO_1.2 rfl 15 (by decide) (hts (.fieldLink RX11 91 "HiddenMoves" "faultPlace" "I") (List.mem_cons_of_mem _ (List.mem_append_left _ (List.mem_of_getElem? (i := 0) rfl)))) (fun _ h9 => h9) rfl dX11_place_1 ?_
  subst hQQ
  subst hAe
  exact W.iret (v := hz_i (z y0 15)) hx hb hr (fun t ht hW => ⟨⟨hz_i (z y0 15), (z y0 15, z, r, A), rfl, ⟨rfl, hw⟩, by rw [ht]; exact hP, va_K.moved hW.alike hK, hD⟩, hS.F ht⟩) hS.2.2 dX11_place_4

noncomputable def wp_c11_sideOf (L : List Nat) (K : Nat → cw_K) (z : Nat → Nat → Int) (r : Nat → Nat → Nat) (A : Nat → Nat → Int) (y0 : Nat) (y1 : Int) (Q : Nat → Prop) : Prop := cw_O L K 11 y0 ∧ cw_O L K 2 (r y0 13) ∧ cw_G L K 7 (r (r y0 13) 1) ∧ ((0 : Int) ≤ y1 - 1 ∧ y1 - 1 < (cw_n K (r (r y0 13) 1) : Int)) ∧ Q (cw_g K (r (r y0 13) 1) ((y1 - 1).toNat))
set_option maxHeartbeats 4000000 in
set_option maxRecDepth 100000 in
theorem k_c11_sideOf (l : Launch) (D : va_G) (sz : Nat) (C : Nat → ClassId) (L : List Nat) (K : Nat → cw_K) (z : Nat → Nat → Int) (r : Nat → Nat → Nat) (A : Nat → Nat → Int) (y0 : Nat) (y1 : Int) (Q : Nat → Prop) (hw : wp_c11_sideOf L K z r A y0 y1 Q) : Met l yX11_sideOf wsX11_sideOf ({ frames := 0, cells := 0, slots := 0, locals := 0 } : Room) (va_Pc [.ref y0, .int (hz_i y1)] (hm_P D (cw_w C L K z r A) (cw_t C) sz)) (va_Qr (S := Nat × (Nat → Nat → Int) × (Nat → Nat → Nat) × (Nat → Nat → Int)) (fun u => Q u.1) (fun u a t => a = u.1 ∧ hm_B D (va_A (cw_w C L K z r A) sz) (cw_w C L K z r A) (cw_t C) t) (va_A (cw_w C L K z r A) sz)) 0 0 (va_A (cw_w C L K z r A) sz) := by
  refine Met.ofW (cc := cX11_sideOf) (maxL := 2) (ret := (some (.object "HiddenMoves$Side"))) (by decide) rfl ?_
  intro p e s m args below meth c s₁ B hml hv
  obtain ⟨rfl, hsz, hP, hK, hD0, hE⟩ := hv
  have hx := B.exec
  have hb := B.bytes
  have hr := B.returns
  have hts := atoms_spec (ws := wsX11_sideOf) B.pre
  have hown : s.vm.findClass RX11 = some m.cls := findClass_of_methodNamed B.named
  have hlocks := B.notSynchronized
  have hin2 : ∀ w ∈ u_ws RX2 TX2 4, w ∈ wsX11_sideOf := fun w h => List.mem_cons_of_mem _ (List.mem_append_right _ (h))
  have hin11 : ∀ w ∈ u_ws RX11 TX11 16, w ∈ wsX11_sideOf := fun w h => List.mem_cons_of_mem _ (List.mem_append_left _ (List.mem_append_right _ (h)))
  subst hsz
  have hD := hD0.self (sz := s.heap.size)
  generalize hAe : va_A (cw_w C L K z r A) s.heap.size = Ad at hD ⊢
  have hA : ∀ q : Nat, s.heap.size ≤ q → Ad q := fun q h => by rw [← hAe]; exact Or.inr h
  have hS : va_S Ad s.heap s.heap [] := va_S.rf
  have hl := lv_entry ([.ref y0, .int (hz_i y1)]) (n := 2) (Nat.le_of_ble_eq_true rfl)
  rw [lg_entry_eq]
  generalize (lg_sl ([.ref y0, .int (hz_i y1)]) ++ List.replicate (2 - (lg_sl ([.ref y0, .int (hz_i y1)])).length) Slot.unset).toArray = ls at hl ⊢
  have hl : lv_has ls 2 [(0, .ref y0), (1, .int (hz_i y1))] := hl
  refine mw_Q (fun QQ hQQ => ?_)
  have hP0 := hP; have hD0 := hD; have hS0 := hS; have hl0 := hl; have hw0 := hw
  clear hP hD hS hl hw
  have hP := hP0; have hD := hD0; have hS := hS0; have hl := hl0; have hw := hw0
  obtain ⟨H, hH⟩ : ∃ H : Heap, H = s.heap := ⟨_, rfl⟩
  obtain ⟨locs, hlocs⟩ : ∃ L : List Loc, L = [] := ⟨_, rfl⟩
  rw [← hH] at hP
  have hS : va_S Ad s.heap H locs := by rw [hH, hlocs]; exact hS
  refine mw_HL hH hlocs ?_
  refine lv_aload_n hx hb dX11_sideOf_0 rfl (lv_at hl 0 rfl) ?_
  obtain ⟨hO_1, hw⟩ := hw
  refine cw_get (ci := 11) (v := .ref (r y0 13)) hx hb hts hin11 hown hK hP hO_1.1 hO_1.2 rfl 13 (by decide) (hts (.fieldLink RX11 83 "HiddenMoves" "game" "LHiddenMoves$Game;") (List.mem_cons_of_mem _ (List.mem_append_left _ (List.mem_append_left _ (List.mem_of_getElem? (i := 0) rfl))))) (fun _ h9 => h9) rfl dX11_sideOf_1 ?_
  obtain ⟨hO_2, hw⟩ := hw
  refine cw_get (ci := 2) (v := .ref (r (r y0 13) 1)) hx hb hts hin2 hown hK hP hO_2.1 hO_2.2 rfl 1 (by decide) (hts (.fieldLink RX11 238 "HiddenMoves$Game" "sides" "[LHiddenMoves$Side;") (List.mem_cons_of_mem _ (List.mem_append_left _ (List.mem_append_left _ (List.mem_of_getElem? (i := 1) rfl))))) (fun _ h9 => h9) rfl dX11_sideOf_4 ?_
  refine lv_iload_n hx hb dX11_sideOf_7 rfl (lv_at hl 1 rfl) ?_
  refine lv_iconst (v := hz_i 1) hx hb dX11_sideOf_8 (by decide +kernel) ?_
  refine hz_isub hx hb dX11_sideOf_9 ?_
  obtain ⟨hO_3, hw⟩ := hw
  obtain ⟨h9i, hw⟩ := hw
  refine cw_ald hx hb hK hP hO_3.1 hO_3.2.2 rfl h9i hO_3.2.1 dX11_sideOf_10 ?_
  subst hQQ
  subst hAe
  exact W.aret hx hb hr (Or.inl ⟨_, rfl⟩) (Or.inr ⟨_, rfl⟩) (fun t ht hW => ⟨⟨(cw_g K (r (r y0 13) 1) ((y1 - 1).toNat), z, r, A), (cw_g K (r (r y0 13) 1) ((y1 - 1).toNat)), rfl, hw, rfl, by rw [ht]; exact hP, va_K.moved hW.alike hK, hD⟩, hS.F ht⟩) hS.2.2 dX11_sideOf_11

noncomputable def wp_c7_countPlans_4 (L : List Nat) (K : Nat → cw_K) (z : Nat → Nat → Int) (r : Nat → Nat → Nat) (A : Nat → Nat → Int) (y0 : Nat) (x1 : Int) (x2 : Int) (Q : Int → Prop) : Prop := ∀ P4 : Int → Int → Prop, (∀ (x1 : Int) (x2 : Int), cw_O L K 7 y0 ∧ hz_rI x2 ∧ hz_rI (z y0 0) ∧ ((z y0 0 ≤ x2 → Q x1) ∧ (¬ (z y0 0 ≤ x2) → cw_A L K 0 (r y0 2) ∧ ((0 : Int) ≤ x2 ∧ x2 < (cw_n K (r y0 2) : Int)) ∧ ∀ x1_4 : Int, hz_rI x1_4 → x1_4 % 4294967296 = (x1 * (A (r y0 2) (x2.toNat))) % 4294967296 → ∀ x2_5 : Int, x2_5 = x2 + 1 → P4 x1_4 x2_5)) → P4 x1 x2) → P4 x1 x2
noncomputable def wp_c7_countPlans (L : List Nat) (K : Nat → cw_K) (z : Nat → Nat → Int) (r : Nat → Nat → Nat) (A : Nat → Nat → Int) (y0 : Nat) (Q : Int → Prop) : Prop := wp_c7_countPlans_4 L K z r A y0 1 0  Q
set_option maxHeartbeats 4000000 in
set_option maxRecDepth 100000 in
theorem k_c7_countPlans (l : Launch) (D : va_G) (sz : Nat) (C : Nat → ClassId) (L : List Nat) (K : Nat → cw_K) (z : Nat → Nat → Int) (r : Nat → Nat → Nat) (A : Nat → Nat → Int) (y0 : Nat) (Q : Int → Prop) (hw : wp_c7_countPlans L K z r A y0 Q) : Met l yX7_countPlans wsX7_countPlans ({ frames := 0, cells := 0, slots := 0, locals := 0 } : Room) (va_Pc [.ref y0] (hm_P D (cw_w C L K z r A) (cw_t C) sz)) (va_Qi (S := Int × (Nat → Nat → Int) × (Nat → Nat → Nat) × (Nat → Nat → Int)) (fun r u => r = hz_i u.1 ∧ Q u.1) (fun u t => hm_B D (va_A (cw_w C L K z r A) sz) (cw_w C L K z r A) (cw_t C) t) (va_A (cw_w C L K z r A) sz)) 0 0 (va_A (cw_w C L K z r A) sz) := by
  refine Met.ofW (cc := cX7_countPlans) (maxL := 3) (ret := (some .int)) (by decide) rfl ?_
  intro p e s m args below meth c s₁ B hml hv
  obtain ⟨rfl, hsz, hP, hK, hD0, hE⟩ := hv
  have hx := B.exec
  have hb := B.bytes
  have hr := B.returns
  have hts := atoms_spec (ws := wsX7_countPlans) B.pre
  have hown : s.vm.findClass RX7 = some m.cls := findClass_of_methodNamed B.named
  have hlocks := B.notSynchronized
  have hin7 : ∀ w ∈ u_ws RX7 TX7 8, w ∈ wsX7_countPlans := fun w h => List.mem_cons_of_mem _ (List.mem_append_right _ (h))
  subst hsz
  have hD := hD0.self (sz := s.heap.size)
  generalize hAe : va_A (cw_w C L K z r A) s.heap.size = Ad at hD ⊢
  have hA : ∀ q : Nat, s.heap.size ≤ q → Ad q := fun q h => by rw [← hAe]; exact Or.inr h
  have hS : va_S Ad s.heap s.heap [] := va_S.rf
  have hl := lv_entry ([.ref y0]) (n := 3) (Nat.le_of_ble_eq_true rfl)
  rw [lg_entry_eq]
  generalize (lg_sl ([.ref y0]) ++ List.replicate (3 - (lg_sl ([.ref y0])).length) Slot.unset).toArray = ls at hl ⊢
  have hl : lv_has ls 3 [(0, .ref y0)] := hl
  refine mw_Q (fun QQ hQQ => ?_)
  have hP0 := hP; have hD0 := hD; have hS0 := hS; have hl0 := hl; have hw0 := hw
  clear hP hD hS hl hw
  have L4 : ∀ (x1 : Int) (x2 : Int), wp_c7_countPlans_4 L K z r A y0 x1 x2  Q → ∀ (H : Heap) (locs : List Loc) (ls : Array Slot), va_P D vwCl (cw_w C L K z r A) H → va_D Ad (cw_w C L K z r A) → va_S Ad s.heap H locs → lv_has ls 3 [(0, .ref y0), (1, .int (hz_i x1)), (2, .int (hz_i x2))] → W p l e (headSpec wsX7_countPlans ({ frames := 0, cells := 0, slots := 0, locals := 0 } : Room)).room s m (List.toArray [.ref y0]) below meth c H locs 0 0 QQ (F0 m 4 ls []) := by
    intro x1 x2 hw
    obtain ⟨P4, hP4⟩ : ∃ P : Int → Int → Prop, ∀ (x1 : Int) (x2 : Int), P x1 x2 ↔ (∀ (H : Heap) (locs : List Loc) (ls : Array Slot), va_P D vwCl (cw_w C L K z r A) H → va_D Ad (cw_w C L K z r A) → va_S Ad s.heap H locs → lv_has ls 3 [(0, .ref y0), (1, .int (hz_i x1)), (2, .int (hz_i x2))] → W p l e (headSpec wsX7_countPlans ({ frames := 0, cells := 0, slots := 0, locals := 0 } : Room)).room s m (List.toArray [.ref y0]) below meth c H locs 0 0 QQ (F0 m 4 ls [])) := ⟨fun (x1 : Int) (x2 : Int) => ∀ (H : Heap) (locs : List Loc) (ls : Array Slot), va_P D vwCl (cw_w C L K z r A) H → va_D Ad (cw_w C L K z r A) → va_S Ad s.heap H locs → lv_has ls 3 [(0, .ref y0), (1, .int (hz_i x1)), (2, .int (hz_i x2))] → W p l e (headSpec wsX7_countPlans ({ frames := 0, cells := 0, slots := 0, locals := 0 } : Room)).room s m (List.toArray [.ref y0]) below meth c H locs 0 0 QQ (F0 m 4 ls []), fun _ _ => Iff.rfl⟩
    refine (hP4 x1 x2).mp (hw P4 ?_)
    intro x1 x2 hw
    refine (hP4 x1 x2).mpr ?_
    intro H locs ls hP hD hS hl
    refine lv_iload_n hx hb dX7_countPlans_4 rfl (lv_at hl 2 rfl) ?_
    refine lv_aload_n hx hb dX7_countPlans_5 rfl (lv_at hl 0 rfl) ?_
    obtain ⟨hO_1, hw⟩ := hw
    refine cw_get (ci := 7) (v := .int (hz_i (z y0 0))) hx hb hts hin7 hown hK hP hO_1.1 hO_1.2 rfl 0 (by decide) (hts (.fieldLink RX7 9 "HiddenMoves$Side" "sets" "I") (List.mem_cons_of_mem _ (List.mem_append_left _ (List.mem_of_getElem? (i := 0) rfl)))) (fun _ h9 => h9) rfl dX7_countPlans_6 ?_
    obtain ⟨h9a, hw⟩ := hw
    obtain ⟨h9b, hw⟩ := hw
    refine hz_icmp_ge (tgt := 27) hx hb dX7_countPlans_9 (by decide) h9a h9b (fun c_2 => ?_) (fun c_2 => ?_)
    · have hw := hw.1 c_2
      refine lv_iload_n hx hb dX7_countPlans_27 rfl (lv_at hl 1 rfl) ?_
      subst hQQ
      subst hAe
      exact W.iret (v := hz_i x1) hx hb hr (fun t ht hW => ⟨⟨hz_i x1, (x1, z, r, A), rfl, ⟨rfl, hw⟩, by rw [ht]; exact hP, va_K.moved hW.alike hK, hD⟩, hS.F ht⟩) hS.2.2 dX7_countPlans_28
    · have hw := hw.2 c_2
      refine lv_iload_n hx hb dX7_countPlans_12 rfl (lv_at hl 1 rfl) ?_
      refine lv_aload_n hx hb dX7_countPlans_13 rfl (lv_at hl 0 rfl) ?_
      refine cw_get (ci := 7) (v := .ref (r y0 2)) hx hb hts hin7 hown hK hP hO_1.1 hO_1.2 rfl 2 (by decide) (hts (.fieldLink RX7 19 "HiddenMoves$Side" "moves" "[I") (List.mem_cons_of_mem _ (List.mem_append_left _ (List.mem_of_getElem? (i := 1) rfl)))) (fun _ h9 => h9) rfl dX7_countPlans_14 ?_
      refine lv_iload_n hx hb dX7_countPlans_17 rfl (lv_at hl 2 rfl) ?_
      obtain ⟨hO_3, hw⟩ := hw
      obtain ⟨h9i, hw⟩ := hw
      refine cw_ild hx hb hK hP hO_3.1 hO_3.2.2 h9i hO_3.2.1 dX7_countPlans_18 ?_
      refine hz_imul hx hb dX7_countPlans_19 ?_
      refine cw_nri (fun x1_4 hx1_4a hx1_4b => ?_)
      have hw := hw x1_4 hx1_4a hx1_4b
      refine lv_istore_n (lv' := [(1, .int (hz_i x1_4)), (0, .ref y0), (2, .int (hz_i x2))]) hx hb dX7_countPlans_20 rfl hl (by decide) rfl (fun ls hl => ?_)
      obtain ⟨x2_5, hx2_5⟩ : ∃ y : Int, y = x2 + 1 := ⟨_, rfl⟩
      have hw := hw x2_5 hx2_5
      refine lv_iinc (v := hz_i x2_5) (lv' := [(2, .int (hz_i x2_5)), (1, .int (hz_i x1_4)), (0, .ref y0)]) hx hb dX7_countPlans_21 hl (k := 2) rfl (by rw [hx2_5]; exact hz_i_add _ _) (by decide) rfl (fun ls hl => ?_)
      refine lv_goto (tgt := 4) hx hb dX7_countPlans_24 (by decide) ?_
      exact (hP4 x1_4 x2_5).mp hw H locs ls hP hD hS (lv_sub hl [2, 1, 0] rfl)
  have hP := hP0; have hD := hD0; have hS := hS0; have hl := hl0; have hw := hw0
  obtain ⟨H, hH⟩ : ∃ H : Heap, H = s.heap := ⟨_, rfl⟩
  obtain ⟨locs, hlocs⟩ : ∃ L : List Loc, L = [] := ⟨_, rfl⟩
  rw [← hH] at hP
  have hS : va_S Ad s.heap H locs := by rw [hH, hlocs]; exact hS
  refine mw_HL hH hlocs ?_
  refine lv_iconst (v := hz_i 1) hx hb dX7_countPlans_0 (by decide +kernel) ?_
  refine lv_istore_n (lv' := [(1, .int (hz_i 1)), (0, .ref y0)]) hx hb dX7_countPlans_1 rfl hl (by decide) rfl (fun ls hl => ?_)
  refine lv_iconst (v := hz_i 0) hx hb dX7_countPlans_2 (by decide +kernel) ?_
  refine lv_istore_n (lv' := [(2, .int (hz_i 0)), (1, .int (hz_i 1)), (0, .ref y0)]) hx hb dX7_countPlans_3 rfl hl (by decide) rfl (fun ls hl => ?_)
  exact L4 1 0 hw H locs ls hP hD hS (lv_sub hl [2, 1, 0] rfl)

noncomputable def wp_c11_plans_20 (L : List Nat) (K : Nat → cw_K) (z : Nat → Nat → Int) (r : Nat → Nat → Nat) (A : Nat → Nat → Int) (t0 : Int) (Q : Int → Prop) : Prop := Q t0
noncomputable def wp_c11_plans (L : List Nat) (K : Nat → cw_K) (z : Nat → Nat → Int) (r : Nat → Nat → Nat) (A : Nat → Nat → Int) (y0 : Nat) (y1 : Int) (Q : Int → Prop) : Prop := cw_O L K 11 y0 ∧ wp_c11_isPlaying L K z r A y0 y1 (fun rv_1 => hz_rI rv_1 ∧ ((rv_1 = 0 → wp_c11_plans_20 L K z r A (-1)  Q) ∧ (¬ (rv_1 = 0) → wp_c11_sideOf L K z r A y0 y1 (fun rv_4 => cw_O L K 7 rv_4 ∧ wp_c7_countPlans L K z r A rv_4 (fun rv_5 => wp_c11_plans_20 L K z r A rv_5  Q)))))
set_option maxHeartbeats 4000000 in
set_option maxRecDepth 100000 in
theorem k_c11_plans (l : Launch) (D : va_G) (sz : Nat) (C : Nat → ClassId) (L : List Nat) (K : Nat → cw_K) (z : Nat → Nat → Int) (r : Nat → Nat → Nat) (A : Nat → Nat → Int) (y0 : Nat) (y1 : Int) (Q : Int → Prop) (hw : wp_c11_plans L K z r A y0 y1 Q) : Met l yX11_plans wsX11_plans ({ frames := 2, cells := 0, slots := 0, locals := 41 } : Room) (va_Pc [.ref y0, .int (hz_i y1)] (hm_P D (cw_w C L K z r A) (cw_t C) sz)) (va_Qi (S := Int × (Nat → Nat → Int) × (Nat → Nat → Nat) × (Nat → Nat → Int)) (fun r u => r = hz_i u.1 ∧ Q u.1) (fun u t => hm_B D (va_A (cw_w C L K z r A) sz) (cw_w C L K z r A) (cw_t C) t) (va_A (cw_w C L K z r A) sz)) 0 0 (va_A (cw_w C L K z r A) sz) := by
  refine Met.ofW (cc := cX11_plans) (maxL := 2) (ret := (some .int)) (by decide) rfl ?_
  intro p e s m args below meth c s₁ B hml hv
  obtain ⟨rfl, hsz, hP, hK, hD0, hE⟩ := hv
  have hx := B.exec
  have hb := B.bytes
  have hr := B.returns
  have hts := atoms_spec (ws := wsX11_plans) B.pre
  have hown : s.vm.findClass RX11 = some m.cls := findClass_of_methodNamed B.named
  have hlocks := B.notSynchronized
  subst hsz
  have hD := hD0.self (sz := s.heap.size)
  generalize hAe : va_A (cw_w C L K z r A) s.heap.size = Ad at hD ⊢
  have hA : ∀ q : Nat, s.heap.size ≤ q → Ad q := fun q h => by rw [← hAe]; exact Or.inr h
  have hS : va_S Ad s.heap s.heap [] := va_S.rf
  have hl := lv_entry ([.ref y0, .int (hz_i y1)]) (n := 2) (Nat.le_of_ble_eq_true rfl)
  rw [lg_entry_eq]
  generalize (lg_sl ([.ref y0, .int (hz_i y1)]) ++ List.replicate (2 - (lg_sl ([.ref y0, .int (hz_i y1)])).length) Slot.unset).toArray = ls at hl ⊢
  have hl : lv_has ls 2 [(0, .ref y0), (1, .int (hz_i y1))] := hl
  refine mw_Q (fun QQ hQQ => ?_)
  have hP0 := hP; have hD0 := hD; have hS0 := hS; have hl0 := hl; have hw0 := hw
  clear hP hD hS hl hw
  have L20 : ∀ (t0 : Int), wp_c11_plans_20 L K z r A t0  Q → ∀ (H : Heap) (locs : List Loc) (ls : Array Slot), va_P D vwCl (cw_w C L K z r A) H → va_D Ad (cw_w C L K z r A) → va_S Ad s.heap H locs → lv_has ls 2 [] → W p l e (headSpec wsX11_plans ({ frames := 2, cells := 0, slots := 0, locals := 41 } : Room)).room s m (List.toArray [.ref y0, .int (hz_i y1)]) below meth c H locs 0 0 QQ (F0 m 20 ls [.int (hz_i t0)]) := by
    intro t0 hw H locs ls hP hD hS hl
    subst hQQ
    subst hAe
    exact W.iret (v := hz_i t0) hx hb hr (fun t ht hW => ⟨⟨hz_i t0, (t0, z, r, A), rfl, ⟨rfl, hw⟩, by rw [ht]; exact hP, va_K.moved hW.alike hK, hD⟩, hS.F ht⟩) hS.2.2 dX11_plans_20
  have hP := hP0; have hD := hD0; have hS := hS0; have hl := hl0; have hw := hw0
  obtain ⟨H, hH⟩ : ∃ H : Heap, H = s.heap := ⟨_, rfl⟩
  obtain ⟨locs, hlocs⟩ : ∃ L : List Loc, L = [] := ⟨_, rfl⟩
  rw [← hH] at hP
  have hS : va_S Ad s.heap H locs := by rw [hH, hlocs]; exact hS
  refine mw_HL hH hlocs ?_
  refine lv_aload_n hx hb dX11_plans_0 rfl (lv_at hl 0 rfl) ?_
  refine lv_iload_n hx hb dX11_plans_1 rfl (lv_at hl 1 rfl) ?_
  obtain ⟨hO_2, hw⟩ := hw
  have hFc := cw_free hD hS hA
  obtain ⟨q9, hq9⟩ := cw_at (C := C) (z := z) (r := r) (A := A) hO_2.1 hO_2.2
  refine va_calli (va_runV (As := [.int (hz_i y1)]) (rest := []) ⟨hx, hb, hml, hown, hts⟩ (k_c11_isPlaying l D _ C L K z r A y0 y1 _ hw) (cwV 1 hts gX11_plans_X11_isPlaying rfl rfl rfl (by decide +kernel) ⟨Nat.le_of_ble_eq_true rfl, Nat.le_of_ble_eq_true rfl⟩) ⟨hm_blind, va_recv hK hP (ci := 11) (q0 := q9) rfl hq9, hm_pre hP hK hD hE⟩ rfl rfl hl.1 rfl (lv_room (Nat.le_of_ble_eq_true rfl)) dX11_plans_2 ⟨Nat.le_of_ble_eq_true rfl, Nat.le_of_ble_eq_true rfl⟩) hS (fun q _ h => hFc q h) hFc (fun rv u t H1 locs ht hvm hw hB hz1 hk1 hS => ?_)
  obtain ⟨rv_1, _, _, _⟩ := u
  obtain ⟨hP, hK1, hD1⟩ := hB
  rw [ht] at hP
  obtain ⟨hrv, hw⟩ := hw
  subst hrv
  have hD := hD1.weaken (fun k q _ h => hFc q.1 h)
  have hP : va_P D vwCl (cw_w C L K z r A) H1 := hP
  have hD : va_D Ad (cw_w C L K z r A) := hD
  generalize H1 = H at hP hS ⊢
  refine W.eq (g2 := F0 m 5 ls [.int (hz_i rv_1)]) rfl ?_
  obtain ⟨h9a, hw⟩ := hw
  refine hz_if_eq (tgt := 19) hx hb dX11_plans_5 (by decide) h9a (fun c_3 => ?_) (fun c_3 => ?_)
  · have hw := hw.1 c_3
    refine lv_iconst (v := hz_i (-1)) hx hb dX11_plans_19 (by decide +kernel) ?_
    exact L20 (-1) hw H locs ls hP hD hS (lv_sub hl [] rfl)
  · have hw := hw.2 c_3
    refine lv_aload_n hx hb dX11_plans_8 rfl (lv_at hl 0 rfl) ?_
    refine lv_iload_n hx hb dX11_plans_9 rfl (lv_at hl 1 rfl) ?_
    have hFc := cw_free hD hS hA
    obtain ⟨q9, hq9⟩ := cw_at (C := C) (z := z) (r := r) (A := A) hO_2.1 hO_2.2
    refine va_callr (va_runV (As := [.int (hz_i y1)]) (rest := []) ⟨hx, hb, hml, hown, hts⟩ (k_c11_sideOf l D _ C L K z r A y0 y1 _ hw) (cwV 1 hts gX11_plans_X11_sideOf rfl rfl rfl (by decide +kernel) ⟨Nat.le_of_ble_eq_true rfl, Nat.le_of_ble_eq_true rfl⟩) ⟨hm_blind, va_recv hK hP (ci := 11) (q0 := q9) rfl hq9, hm_pre hP hK hD hE⟩ rfl rfl hl.1 rfl (lv_room (Nat.le_of_ble_eq_true rfl)) dX11_plans_10 ⟨Nat.le_of_ble_eq_true rfl, Nat.le_of_ble_eq_true rfl⟩) hS (fun q _ h => hFc q h) hFc (fun u ra t H1 locs ht hvm hw hB hz1 hk1 hS => ?_)
    obtain ⟨rv_4, _, _, _⟩ := u
    obtain ⟨hra, hP, hK1, hD1⟩ := hB
    have hra := hra.symm
    subst hra
    rw [ht] at hP
    have hD := hD1.weaken (fun k q _ h => hFc q.1 h)
    have hP : va_P D vwCl (cw_w C L K z r A) H1 := hP
    have hD : va_D Ad (cw_w C L K z r A) := hD
    generalize H1 = H at hP hS ⊢
    refine W.eq (g2 := F0 m 13 ls [.ref rv_4]) rfl ?_
    obtain ⟨hO_6, hw⟩ := hw
    have hFc := cw_free hD hS hA
    obtain ⟨q9, hq9⟩ := cw_at (C := C) (z := z) (r := r) (A := A) hO_6.1 hO_6.2
    refine va_calli (va_runV (As := []) (rest := []) ⟨hx, hb, hml, hown, hts⟩ (k_c7_countPlans l D _ C L K z r A rv_4 _ hw) (cwV 0 hts gX11_plans_X7_countPlans rfl rfl rfl (by decide +kernel) ⟨Nat.le_of_ble_eq_true rfl, Nat.le_of_ble_eq_true rfl⟩) ⟨hm_blind, va_recv hK hP (ci := 7) (q0 := q9) rfl hq9, hm_pre hP hK hD hE⟩ rfl rfl hl.1 rfl (lv_room (Nat.le_of_ble_eq_true rfl)) dX11_plans_13 ⟨Nat.le_of_ble_eq_true rfl, Nat.le_of_ble_eq_true rfl⟩) hS (fun q _ h => hFc q h) hFc (fun rv u t H1 locs ht hvm hw hB hz1 hk1 hS => ?_)
    obtain ⟨rv_5, _, _, _⟩ := u
    obtain ⟨hP, hK1, hD1⟩ := hB
    rw [ht] at hP
    obtain ⟨hrv, hw⟩ := hw
    subst hrv
    have hD := hD1.weaken (fun k q _ h => hFc q.1 h)
    have hP : va_P D vwCl (cw_w C L K z r A) H1 := hP
    have hD : va_D Ad (cw_w C L K z r A) := hD
    generalize H1 = H at hP hS ⊢
    refine W.eq (g2 := F0 m 16 ls [.int (hz_i rv_5)]) rfl ?_
    refine lv_goto (tgt := 20) hx hb dX11_plans_16 (by decide) ?_
    exact L20 rv_5 hw H locs ls hP hD hS (lv_sub hl [] rfl)

noncomputable def wp_c4_writeSize_75 (L : List Nat) (K : Nat → cw_K) (z : Nat → Nat → Int) (r : Nat → Nat → Nat) (A : Nat → Nat → Int) (y2 : Nat) (x4 : Int) (x5 : Int) (x6 : Int) (Q : Int → (Nat → Nat → Int) → (Nat → Nat → Int) → Prop) : Prop := ∀ P75 : (Nat → Nat → Int) → Int → Int → Prop, (∀ (A : Nat → Nat → Int) (x5 : Int) (x6 : Int), hz_rI x5 ∧ hz_rI x6 ∧ ((x6 ≤ x5 → Q x4 z A) ∧ (¬ (x6 ≤ x5) → cw_A L K 2 y2 ∧ ((0 : Int) ≤ x5 ∧ x5 < (cw_n K y2 : Int)) ∧ ∀ x7_3 : Int, x7_3 = A y2 (x5.toNat) → ((0 : Int) ≤ x6 ∧ x6 < (cw_n K y2 : Int)) ∧ ((0 : Int) ≤ x5 ∧ x5 < (cw_n K y2 : Int)) ∧ (0 ≤ A y2 (x6.toNat) ∧ A y2 (x6.toNat) < 65536) ∧ ∀ A_4 : Nat → Nat → Int, A_4 = hz_s A y2 x5 (A y2 (x6.toNat)) → ((0 : Int) ≤ x6 ∧ x6 < (cw_n K y2 : Int)) ∧ (0 ≤ x7_3 ∧ x7_3 < 65536) ∧ ∀ A_5 : Nat → Nat → Int, A_5 = hz_s A_4 y2 x6 x7_3 → ∀ x5_6 : Int, x5_6 = x5 + 1 → ∀ x6_7 : Int, x6_7 = x6 + (-1) → P75 A_5 x5_6 x6_7)) → P75 A x5 x6) → P75 A x5 x6
noncomputable def wp_c4_writeSize_66 (L : List Nat) (K : Nat → cw_K) (z : Nat → Nat → Int) (r : Nat → Nat → Nat) (A : Nat → Nat → Int) (y2 : Nat) (y3 : Int) (x4 : Int) (Q : Int → (Nat → Nat → Int) → (Nat → Nat → Int) → Prop) : Prop := ∀ x6_8 : Int, x6_8 = x4 - 1 → wp_c4_writeSize_75 L K z r A y2 x4 y3 x6_8  Q
noncomputable def wp_c4_writeSize_37 (L : List Nat) (K : Nat → cw_K) (z : Nat → Nat → Int) (r : Nat → Nat → Nat) (A : Nat → Nat → Int) (y0 : Nat) (y2 : Nat) (y3 : Int) (x5 : Int) (P14 : (Nat → Nat → Int) → (Nat → Nat → Int) → Int → Int → Prop) (Q : Int → (Nat → Nat → Int) → (Nat → Nat → Int) → Prop) : Prop := cw_O L K 4 y0 ∧ cw_O L K 0 (r y0 3) ∧ wp_c0_divideBySmall L K z r A (r y0 3) 10 (fun rv_10 z_11 A_12 => ∀ x9_14 : Int, x9_14 = (48 + rv_10) % 65536 → cw_A L K 2 y2 ∧ ((0 : Int) ≤ x5 ∧ x5 < (cw_n K y2 : Int)) ∧ (0 ≤ x9_14 ∧ x9_14 < 65536) ∧ ∀ A_16 : Nat → Nat → Int, A_16 = hz_s A_12 y2 x5 x9_14 → ∀ x4_17 : Int, x4_17 = x5 + 1 → ∀ x5_18 : Int, x5_18 = x5 + 1 → P14 z_11 A_16 x4_17 x5_18)
noncomputable def wp_c4_writeSize_14 (L : List Nat) (K : Nat → cw_K) (z : Nat → Nat → Int) (r : Nat → Nat → Nat) (A : Nat → Nat → Int) (y0 : Nat) (y2 : Nat) (y3 : Int) (x4 : Int) (x5 : Int) (Q : Int → (Nat → Nat → Int) → (Nat → Nat → Int) → Prop) : Prop := ∀ P14 : (Nat → Nat → Int) → (Nat → Nat → Int) → Int → Int → Prop, (∀ (z : Nat → Nat → Int) (A : Nat → Nat → Int) (x4 : Int) (x5 : Int), cw_A L K 2 y2 ∧ hz_rI x5 ∧ hz_rI (cw_n K y2 : Int) ∧ (((cw_n K y2 : Int) ≤ x5 → wp_c4_writeSize_66 L K z r A y2 y3 x4  Q) ∧ (¬ ((cw_n K y2 : Int) ≤ x5) → hz_rI x5 ∧ hz_rI y3 ∧ ((x5 = y3 → wp_c4_writeSize_37 L K z r A y0 y2 y3 x5 P14 Q) ∧ (¬ (x5 = y3) → cw_O L K 4 y0 ∧ cw_O L K 0 (r y0 3) ∧ hz_rI (z (r y0 3) 1) ∧ ((z (r y0 3) 1 ≤ 0 → wp_c4_writeSize_66 L K z r A y2 y3 x4  Q) ∧ (¬ (z (r y0 3) 1 ≤ 0) → wp_c4_writeSize_37 L K z r A y0 y2 y3 x5 P14 Q)))))) → P14 z A x4 x5) → P14 z A x4 x5
noncomputable def wp_c4_writeSize (L : List Nat) (K : Nat → cw_K) (z : Nat → Nat → Int) (r : Nat → Nat → Nat) (A : Nat → Nat → Int) (y0 : Nat) (y1 : Nat) (y2 : Nat) (y3 : Int) (Q : Int → (Nat → Nat → Int) → (Nat → Nat → Int) → Prop) : Prop := cw_O L K 4 y0 ∧ cw_O L K 0 (r y0 3) ∧ wp_c0_copy L K z r A (r y0 3) y1 (fun z_27 A_28 => wp_c4_writeSize_14 L K z_27 r A_28 y0 y2 y3 y3 y3  Q)
set_option maxHeartbeats 4000000 in
set_option maxRecDepth 100000 in
theorem k_c4_writeSize (l : Launch) (D : va_G) (sz : Nat) (C : Nat → ClassId) (L : List Nat) (K : Nat → cw_K) (z : Nat → Nat → Int) (r : Nat → Nat → Nat) (A : Nat → Nat → Int) (y0 : Nat) (y1 : Nat) (y2 : Nat) (y3 : Int) (Q : Int → (Nat → Nat → Int) → (Nat → Nat → Int) → Prop) (hw : wp_c4_writeSize L K z r A y0 y1 y2 y3 Q) : Met l yX4_writeSize wsX4_writeSize ({ frames := 2, cells := 0, slots := 0, locals := 51 } : Room) (va_Pc [.ref y0, .ref y1, .ref y2, .int (hz_i y3)] (hm_P D (cw_w C L K z r A) (cw_t C) sz)) (va_Qi (S := Int × (Nat → Nat → Int) × (Nat → Nat → Nat) × (Nat → Nat → Int)) (fun r u => r = hz_i u.1 ∧ Q u.1 u.2.1 u.2.2.2) (fun u t => hm_B D (va_A (cw_w C L K z r A) sz) (cw_w C L K u.2.1 r u.2.2.2) (cw_t C) t) (va_A (cw_w C L K z r A) sz)) 0 0 (va_A (cw_w C L K z r A) sz) := by
  refine Met.ofW (cc := cX4_writeSize) (maxL := 8) (ret := (some .int)) (by decide) rfl ?_
  intro p e s m args below meth c s₁ B hml hv
  obtain ⟨rfl, hsz, hP, hK, hD0, hE⟩ := hv
  have hx := B.exec
  have hb := B.bytes
  have hr := B.returns
  have hts := atoms_spec (ws := wsX4_writeSize) B.pre
  have hown : s.vm.findClass RX4 = some m.cls := findClass_of_methodNamed B.named
  have hlocks := B.notSynchronized
  have hin0 : ∀ w ∈ u_ws RX0 TX0 3, w ∈ wsX4_writeSize := fun w h => List.mem_cons_of_mem _ (List.mem_append_right _ (h))
  have hin4 : ∀ w ∈ u_ws RX4 TX4 6, w ∈ wsX4_writeSize := fun w h => List.mem_cons_of_mem _ (List.mem_append_left _ (List.mem_append_right _ (h)))
  subst hsz
  have hD := hD0.self (sz := s.heap.size)
  generalize hAe : va_A (cw_w C L K z r A) s.heap.size = Ad at hD ⊢
  have hA : ∀ q : Nat, s.heap.size ≤ q → Ad q := fun q h => by rw [← hAe]; exact Or.inr h
  have hS : va_S Ad s.heap s.heap [] := va_S.rf
  have hl := lv_entry ([.ref y0, .ref y1, .ref y2, .int (hz_i y3)]) (n := 8) (Nat.le_of_ble_eq_true rfl)
  rw [lg_entry_eq]
  generalize (lg_sl ([.ref y0, .ref y1, .ref y2, .int (hz_i y3)]) ++ List.replicate (8 - (lg_sl ([.ref y0, .ref y1, .ref y2, .int (hz_i y3)])).length) Slot.unset).toArray = ls at hl ⊢
  have hl : lv_has ls 8 [(0, .ref y0), (1, .ref y1), (2, .ref y2), (3, .int (hz_i y3))] := hl
  refine mw_Q (fun QQ hQQ => ?_)
  have hP0 := hP; have hD0 := hD; have hS0 := hS; have hl0 := hl; have hw0 := hw
  clear hP hD hS hl hw
  have L75 : ∀ (z : Nat → Nat → Int) (A : Nat → Nat → Int) (x4 : Int) (x5 : Int) (x6 : Int), wp_c4_writeSize_75 L K z r A y2 x4 x5 x6  Q → ∀ (H : Heap) (locs : List Loc) (ls : Array Slot), va_P D vwCl (cw_w C L K z r A) H → va_D Ad (cw_w C L K z r A) → va_S Ad s.heap H locs → lv_has ls 8 [(2, .ref y2), (4, .int (hz_i x4)), (5, .int (hz_i x5)), (6, .int (hz_i x6))] → W p l e (headSpec wsX4_writeSize ({ frames := 2, cells := 0, slots := 0, locals := 51 } : Room)).room s m (List.toArray [.ref y0, .ref y1, .ref y2, .int (hz_i y3)]) below meth c H locs 0 0 QQ (F0 m 75 ls []) := by
    intro z A x4 x5 x6 hw
    obtain ⟨P75, hP75⟩ : ∃ P : (Nat → Nat → Int) → Int → Int → Prop, ∀ (A : Nat → Nat → Int) (x5 : Int) (x6 : Int), P A x5 x6 ↔ (∀ (H : Heap) (locs : List Loc) (ls : Array Slot), va_P D vwCl (cw_w C L K z r A) H → va_D Ad (cw_w C L K z r A) → va_S Ad s.heap H locs → lv_has ls 8 [(2, .ref y2), (4, .int (hz_i x4)), (5, .int (hz_i x5)), (6, .int (hz_i x6))] → W p l e (headSpec wsX4_writeSize ({ frames := 2, cells := 0, slots := 0, locals := 51 } : Room)).room s m (List.toArray [.ref y0, .ref y1, .ref y2, .int (hz_i y3)]) below meth c H locs 0 0 QQ (F0 m 75 ls [])) := ⟨fun (A : Nat → Nat → Int) (x5 : Int) (x6 : Int) => ∀ (H : Heap) (locs : List Loc) (ls : Array Slot), va_P D vwCl (cw_w C L K z r A) H → va_D Ad (cw_w C L K z r A) → va_S Ad s.heap H locs → lv_has ls 8 [(2, .ref y2), (4, .int (hz_i x4)), (5, .int (hz_i x5)), (6, .int (hz_i x6))] → W p l e (headSpec wsX4_writeSize ({ frames := 2, cells := 0, slots := 0, locals := 51 } : Room)).room s m (List.toArray [.ref y0, .ref y1, .ref y2, .int (hz_i y3)]) below meth c H locs 0 0 QQ (F0 m 75 ls []), fun _ _ _ => Iff.rfl⟩
    refine (hP75 A x5 x6).mp (hw P75 ?_)
    intro A x5 x6 hw
    refine (hP75 A x5 x6).mpr ?_
    intro H locs ls hP hD hS hl
    refine lv_iload hx hb dX4_writeSize_75 (lv_at hl 2 rfl) ?_
    refine lv_iload hx hb dX4_writeSize_77 (lv_at hl 3 rfl) ?_
    obtain ⟨h9a, hw⟩ := hw
    obtain ⟨h9b, hw⟩ := hw
    refine hz_icmp_ge (tgt := 111) hx hb dX4_writeSize_79 (by decide) h9a h9b (fun c_1 => ?_) (fun c_1 => ?_)
    · have hw := hw.1 c_1
      refine lv_iload hx hb dX4_writeSize_111 (lv_at hl 1 rfl) ?_
      subst hQQ
      subst hAe
      exact W.iret (v := hz_i x4) hx hb hr (fun t ht hW => ⟨⟨hz_i x4, (x4, z, r, A), rfl, ⟨rfl, hw⟩, by rw [ht]; exact hP, va_K.moved hW.alike hK, hD⟩, hS.F ht⟩) hS.2.2 dX4_writeSize_113
    · have hw := hw.2 c_1
      refine lv_aload_n hx hb dX4_writeSize_82 rfl (lv_at hl 0 rfl) ?_
      refine lv_iload hx hb dX4_writeSize_83 (lv_at hl 2 rfl) ?_
      obtain ⟨hO_2, hw⟩ := hw
      obtain ⟨h9i, hw⟩ := hw
      refine cw_cld hx hb hK hP hO_2.1 hO_2.2.2 h9i hO_2.2.1 dX4_writeSize_85 ?_
      refine hz_topi (fun x7_3 hx7_3 => ?_)
      have hw := hw x7_3 hx7_3
      refine lv_istore (lv' := [(7, .int (hz_i x7_3)), (2, .ref y2), (4, .int (hz_i x4)), (5, .int (hz_i x5)), (6, .int (hz_i x6))]) hx hb dX4_writeSize_86 hl (by decide) rfl (fun ls hl => ?_)
      refine lv_aload_n hx hb dX4_writeSize_88 rfl (lv_at hl 1 rfl) ?_
      refine lv_iload hx hb dX4_writeSize_89 (lv_at hl 3 rfl) ?_
      refine lv_aload_n hx hb dX4_writeSize_91 rfl (lv_at hl 1 rfl) ?_
      refine lv_iload hx hb dX4_writeSize_92 (lv_at hl 4 rfl) ?_
      obtain ⟨h9i, hw⟩ := hw
      refine cw_cld hx hb hK hP hO_2.1 hO_2.2.2 h9i hO_2.2.1 dX4_writeSize_94 ?_
      obtain ⟨h9i, hw⟩ := hw
      obtain ⟨h9z, hw⟩ := hw
      refine cw_cst (v := A y2 (x6.toNat)) hx hb hK hP hD hS hO_2.1 hO_2.2.2 h9i hO_2.2.1 (cw_nC h9z) dX4_writeSize_95 (fun H locs hP hD hS => ?_)
      obtain ⟨A_4, hA_4⟩ : ∃ y : Nat → Nat → Int, y = hz_s A y2 x5 (A y2 (x6.toNat)) := ⟨_, rfl⟩
      rw [← hA_4] at hP hD
      have hw := hw A_4 hA_4
      refine lv_aload_n hx hb dX4_writeSize_96 rfl (lv_at hl 1 rfl) ?_
      refine lv_iload hx hb dX4_writeSize_97 (lv_at hl 4 rfl) ?_
      refine lv_iload hx hb dX4_writeSize_99 (lv_at hl 0 rfl) ?_
      obtain ⟨h9i, hw⟩ := hw
      obtain ⟨h9z, hw⟩ := hw
      refine cw_cst (v := x7_3) hx hb hK hP hD hS hO_2.1 hO_2.2.2 h9i hO_2.2.1 (cw_nC h9z) dX4_writeSize_101 (fun H locs hP hD hS => ?_)
      obtain ⟨A_5, hA_5⟩ : ∃ y : Nat → Nat → Int, y = hz_s A_4 y2 x6 x7_3 := ⟨_, rfl⟩
      rw [← hA_5] at hP hD
      have hw := hw A_5 hA_5
      obtain ⟨x5_6, hx5_6⟩ : ∃ y : Int, y = x5 + 1 := ⟨_, rfl⟩
      have hw := hw x5_6 hx5_6
      refine lv_iinc (v := hz_i x5_6) (lv' := [(5, .int (hz_i x5_6)), (7, .int (hz_i x7_3)), (2, .ref y2), (4, .int (hz_i x4)), (6, .int (hz_i x6))]) hx hb dX4_writeSize_102 hl (k := 3) rfl (by rw [hx5_6]; exact hz_i_add _ _) (by decide) rfl (fun ls hl => ?_)
      obtain ⟨x6_7, hx6_7⟩ : ∃ y : Int, y = x6 + (-1) := ⟨_, rfl⟩
      have hw := hw x6_7 hx6_7
      refine lv_iinc (v := hz_i x6_7) (lv' := [(6, .int (hz_i x6_7)), (5, .int (hz_i x5_6)), (7, .int (hz_i x7_3)), (2, .ref y2), (4, .int (hz_i x4))]) hx hb dX4_writeSize_105 hl (k := 4) rfl (by rw [hx6_7]; exact hz_i_add _ _) (by decide) rfl (fun ls hl => ?_)
      refine lv_goto (tgt := 75) hx hb dX4_writeSize_108 (by decide) ?_
      exact (hP75 A_5 x5_6 x6_7).mp hw H locs ls hP hD hS (lv_sub hl [3, 4, 1, 0] rfl)
  have L66 : ∀ (z : Nat → Nat → Int) (A : Nat → Nat → Int) (x4 : Int), wp_c4_writeSize_66 L K z r A y2 y3 x4  Q → ∀ (H : Heap) (locs : List Loc) (ls : Array Slot), va_P D vwCl (cw_w C L K z r A) H → va_D Ad (cw_w C L K z r A) → va_S Ad s.heap H locs → lv_has ls 8 [(2, .ref y2), (3, .int (hz_i y3)), (4, .int (hz_i x4))] → W p l e (headSpec wsX4_writeSize ({ frames := 2, cells := 0, slots := 0, locals := 51 } : Room)).room s m (List.toArray [.ref y0, .ref y1, .ref y2, .int (hz_i y3)]) below meth c H locs 0 0 QQ (F0 m 66 ls []) := by
    intro z A x4 hw H locs ls hP hD hS hl
    refine lv_iload_n hx hb dX4_writeSize_66 rfl (lv_at hl 1 rfl) ?_
    refine lv_istore (lv' := [(5, .int (hz_i y3)), (2, .ref y2), (3, .int (hz_i y3)), (4, .int (hz_i x4))]) hx hb dX4_writeSize_67 hl (by decide) rfl (fun ls hl => ?_)
    refine lv_iload hx hb dX4_writeSize_69 (lv_at hl 3 rfl) ?_
    refine lv_iconst (v := hz_i 1) hx hb dX4_writeSize_71 (by decide +kernel) ?_
    refine hz_isub hx hb dX4_writeSize_72 ?_
    refine hz_topi (fun x6_8 hx6_8 => ?_)
    have hw := hw x6_8 hx6_8
    refine lv_istore (lv' := [(6, .int (hz_i x6_8)), (5, .int (hz_i y3)), (2, .ref y2), (3, .int (hz_i y3)), (4, .int (hz_i x4))]) hx hb dX4_writeSize_73 hl (by decide) rfl (fun ls hl => ?_)
    exact L75 z A x4 y3 x6_8 hw H locs ls hP hD hS (lv_sub hl [2, 4, 1, 0] rfl)
  have L14 : ∀ (z : Nat → Nat → Int) (A : Nat → Nat → Int) (x4 : Int) (x5 : Int), wp_c4_writeSize_14 L K z r A y0 y2 y3 x4 x5  Q → ∀ (H : Heap) (locs : List Loc) (ls : Array Slot), va_P D vwCl (cw_w C L K z r A) H → va_D Ad (cw_w C L K z r A) → va_S Ad s.heap H locs → lv_has ls 8 [(0, .ref y0), (2, .ref y2), (3, .int (hz_i y3)), (4, .int (hz_i x4)), (5, .int (hz_i x5))] → W p l e (headSpec wsX4_writeSize ({ frames := 2, cells := 0, slots := 0, locals := 51 } : Room)).room s m (List.toArray [.ref y0, .ref y1, .ref y2, .int (hz_i y3)]) below meth c H locs 0 0 QQ (F0 m 14 ls []) := by
    intro z A x4 x5 hw
    obtain ⟨P14, hP14⟩ : ∃ P : (Nat → Nat → Int) → (Nat → Nat → Int) → Int → Int → Prop, ∀ (z : Nat → Nat → Int) (A : Nat → Nat → Int) (x4 : Int) (x5 : Int), P z A x4 x5 ↔ (∀ (H : Heap) (locs : List Loc) (ls : Array Slot), va_P D vwCl (cw_w C L K z r A) H → va_D Ad (cw_w C L K z r A) → va_S Ad s.heap H locs → lv_has ls 8 [(0, .ref y0), (2, .ref y2), (3, .int (hz_i y3)), (4, .int (hz_i x4)), (5, .int (hz_i x5))] → W p l e (headSpec wsX4_writeSize ({ frames := 2, cells := 0, slots := 0, locals := 51 } : Room)).room s m (List.toArray [.ref y0, .ref y1, .ref y2, .int (hz_i y3)]) below meth c H locs 0 0 QQ (F0 m 14 ls [])) := ⟨fun (z : Nat → Nat → Int) (A : Nat → Nat → Int) (x4 : Int) (x5 : Int) => ∀ (H : Heap) (locs : List Loc) (ls : Array Slot), va_P D vwCl (cw_w C L K z r A) H → va_D Ad (cw_w C L K z r A) → va_S Ad s.heap H locs → lv_has ls 8 [(0, .ref y0), (2, .ref y2), (3, .int (hz_i y3)), (4, .int (hz_i x4)), (5, .int (hz_i x5))] → W p l e (headSpec wsX4_writeSize ({ frames := 2, cells := 0, slots := 0, locals := 51 } : Room)).room s m (List.toArray [.ref y0, .ref y1, .ref y2, .int (hz_i y3)]) below meth c H locs 0 0 QQ (F0 m 14 ls []), fun _ _ _ _ => Iff.rfl⟩
    refine (hP14 z A x4 x5).mp (hw P14 ?_)
    intro z A x4 x5 hw
    refine (hP14 z A x4 x5).mpr ?_
    intro H locs ls hP hD hS hl
    have L37 : ∀ (z : Nat → Nat → Int) (A : Nat → Nat → Int) (x5 : Int), wp_c4_writeSize_37 L K z r A y0 y2 y3 x5 P14 Q → ∀ (H : Heap) (locs : List Loc) (ls : Array Slot), va_P D vwCl (cw_w C L K z r A) H → va_D Ad (cw_w C L K z r A) → va_S Ad s.heap H locs → lv_has ls 8 [(0, .ref y0), (2, .ref y2), (3, .int (hz_i y3)), (5, .int (hz_i x5))] → W p l e (headSpec wsX4_writeSize ({ frames := 2, cells := 0, slots := 0, locals := 51 } : Room)).room s m (List.toArray [.ref y0, .ref y1, .ref y2, .int (hz_i y3)]) below meth c H locs 0 0 QQ (F0 m 37 ls []) := by
      intro z A x5 hw H locs ls hP hD hS hl
      refine lv_aload_n hx hb dX4_writeSize_37 rfl (lv_at hl 1 rfl) ?_
      refine lv_iload hx hb dX4_writeSize_38 (lv_at hl 3 rfl) ?_
      refine lv_bipush (v := hz_i 48) hx hb dX4_writeSize_40 (by decide +kernel) ?_
      refine lv_aload_n hx hb dX4_writeSize_42 rfl (lv_at hl 0 rfl) ?_
      obtain ⟨hO_9, hw⟩ := hw
      refine cw_get (ci := 4) (v := .ref (r y0 3)) hx hb hts hin4 hown hK hP hO_9.1 hO_9.2 rfl 3 (by decide) (hts (.fieldLink RX4 27 "HiddenMoves$Ratio" "first" "LHiddenMoves$Big;") (List.mem_cons_of_mem _ (List.mem_append_left _ (List.mem_append_left _ (List.mem_append_left _ (List.mem_of_getElem? (i := 0) rfl)))))) (fun _ h9 => h9) rfl dX4_writeSize_43 ?_
      refine lv_bipush (v := hz_i 10) hx hb dX4_writeSize_46 (by decide +kernel) ?_
      obtain ⟨hO_13, hw⟩ := hw
      have hFc := cw_free hD hS hA
      obtain ⟨q9, hq9⟩ := cw_at (C := C) (z := z) (r := r) (A := A) hO_13.1 hO_13.2
      refine va_calli (va_runV (As := [.int (hz_i 10)]) (rest := [.int (hz_i 48), .int (hz_i x5), .ref y2]) ⟨hx, hb, hml, hown, hts⟩ (k_c0_divideBySmall l D _ C L K z r A (r y0 3) 10 _ hw) (cwV 1 hts gX4_writeSize_X0_divideBySmall rfl rfl rfl (by decide +kernel) ⟨Nat.le_of_ble_eq_true rfl, Nat.le_of_ble_eq_true rfl⟩) ⟨hm_blind, va_recv hK hP (ci := 0) (q0 := q9) rfl hq9, hm_pre hP hK hD hE⟩ rfl rfl hl.1 rfl (lv_room (Nat.le_of_ble_eq_true rfl)) dX4_writeSize_48 ⟨Nat.le_of_ble_eq_true rfl, Nat.le_of_ble_eq_true rfl⟩) hS (fun q _ h => hFc q h) hFc (fun rv u t H1 locs ht hvm hw hB hz1 hk1 hS => ?_)
      obtain ⟨rv_10, z_11, _, A_12⟩ := u
      obtain ⟨hP, hK1, hD1⟩ := hB
      rw [ht] at hP
      obtain ⟨hrv, hw⟩ := hw
      subst hrv
      have hD := hD1.weaken (fun k q _ h => hFc q.1 h)
      have hP : va_P D vwCl (cw_w C L K z_11 r A_12) H1 := hP
      have hD : va_D Ad (cw_w C L K z_11 r A_12) := hD
      generalize H1 = H at hP hS ⊢
      refine W.eq (g2 := F0 m 51 ls [.int (hz_i rv_10), .int (hz_i 48), .int (hz_i x5), .ref y2]) rfl ?_
      refine hz_iadd hx hb dX4_writeSize_51 ?_
      refine cw_i2c hx hb dX4_writeSize_52 (fun x9_14 hx9_14a => ?_)
      have hw := hw x9_14 hx9_14a
      obtain ⟨hO_15, hw⟩ := hw
      obtain ⟨h9i, hw⟩ := hw
      obtain ⟨h9z, hw⟩ := hw
      refine cw_cst (v := x9_14) hx hb hK hP hD hS hO_15.1 hO_15.2.2 h9i hO_15.2.1 (cw_nC h9z) dX4_writeSize_53 (fun H locs hP hD hS => ?_)
      obtain ⟨A_16, hA_16⟩ : ∃ y : Nat → Nat → Int, y = hz_s A_12 y2 x5 x9_14 := ⟨_, rfl⟩
      rw [← hA_16] at hP hD
      have hw := hw A_16 hA_16
      refine lv_iload hx hb dX4_writeSize_54 (lv_at hl 3 rfl) ?_
      refine lv_iconst (v := hz_i 1) hx hb dX4_writeSize_56 (by decide +kernel) ?_
      refine hz_iadd hx hb dX4_writeSize_57 ?_
      refine hz_topi (fun x4_17 hx4_17 => ?_)
      have hw := hw x4_17 hx4_17
      refine lv_istore (lv' := [(4, .int (hz_i x4_17)), (0, .ref y0), (2, .ref y2), (3, .int (hz_i y3)), (5, .int (hz_i x5))]) hx hb dX4_writeSize_58 hl (by decide) rfl (fun ls hl => ?_)
      obtain ⟨x5_18, hx5_18⟩ : ∃ y : Int, y = x5 + 1 := ⟨_, rfl⟩
      have hw := hw x5_18 hx5_18
      refine lv_iinc (v := hz_i x5_18) (lv' := [(5, .int (hz_i x5_18)), (4, .int (hz_i x4_17)), (0, .ref y0), (2, .ref y2), (3, .int (hz_i y3))]) hx hb dX4_writeSize_60 hl (k := 4) rfl (by rw [hx5_18]; exact hz_i_add _ _) (by decide) rfl (fun ls hl => ?_)
      refine lv_goto (tgt := 14) hx hb dX4_writeSize_63 (by decide) ?_
      exact (hP14 z_11 A_16 x4_17 x5_18).mp hw H locs ls hP hD hS (lv_sub hl [2, 3, 4, 1, 0] rfl)
    refine lv_iload hx hb dX4_writeSize_14 (lv_at hl 4 rfl) ?_
    refine lv_aload_n hx hb dX4_writeSize_16 rfl (lv_at hl 1 rfl) ?_
    obtain ⟨hO_19, hw⟩ := hw
    refine cw_len hx hb hK hP hO_19.1 hO_19.2.2 rfl dX4_writeSize_17 ?_
    obtain ⟨h9a, hw⟩ := hw
    obtain ⟨h9b, hw⟩ := hw
    refine hz_icmp_ge (tgt := 66) hx hb dX4_writeSize_18 (by decide) h9a h9b (fun c_20 => ?_) (fun c_20 => ?_)
    · have hw := hw.1 c_20
      exact L66 z A x4 hw H locs ls hP hD hS (lv_sub hl [1, 2, 3] rfl)
    · have hw := hw.2 c_20
      refine lv_iload hx hb dX4_writeSize_21 (lv_at hl 4 rfl) ?_
      refine lv_iload_n hx hb dX4_writeSize_23 rfl (lv_at hl 2 rfl) ?_
      obtain ⟨h9a, hw⟩ := hw
      obtain ⟨h9b, hw⟩ := hw
      refine hz_icmp_eq (tgt := 37) hx hb dX4_writeSize_24 (by decide) h9a h9b (fun c_21 => ?_) (fun c_21 => ?_)
      · have hw := hw.1 c_21
        exact L37 z A x5 hw H locs ls hP hD hS (lv_sub hl [0, 1, 2, 4] rfl)
      · have hw := hw.2 c_21
        refine lv_aload_n hx hb dX4_writeSize_27 rfl (lv_at hl 0 rfl) ?_
        obtain ⟨hO_22, hw⟩ := hw
        refine cw_get (ci := 4) (v := .ref (r y0 3)) hx hb hts hin4 hown hK hP hO_22.1 hO_22.2 rfl 3 (by decide) (hts (.fieldLink RX4 27 "HiddenMoves$Ratio" "first" "LHiddenMoves$Big;") (List.mem_cons_of_mem _ (List.mem_append_left _ (List.mem_append_left _ (List.mem_append_left _ (List.mem_of_getElem? (i := 0) rfl)))))) (fun _ h9 => h9) rfl dX4_writeSize_28 ?_
        obtain ⟨hO_23, hw⟩ := hw
        refine cw_get (ci := 0) (v := .int (hz_i (z (r y0 3) 1))) hx hb hts hin0 hown hK hP hO_23.1 hO_23.2 rfl 1 (by decide) (hts (.fieldLink RX4 48 "HiddenMoves$Big" "length" "I") (List.mem_cons_of_mem _ (List.mem_append_left _ (List.mem_append_left _ (List.mem_append_left _ (List.mem_of_getElem? (i := 1) rfl)))))) (fun _ h9 => h9) rfl dX4_writeSize_31 ?_
        obtain ⟨h9a, hw⟩ := hw
        refine hz_if_le (tgt := 66) hx hb dX4_writeSize_34 (by decide) h9a (fun c_24 => ?_) (fun c_24 => ?_)
        · have hw := hw.1 c_24
          exact L66 z A x4 hw H locs ls hP hD hS (lv_sub hl [1, 2, 3] rfl)
        · have hw := hw.2 c_24
          exact L37 z A x5 hw H locs ls hP hD hS (lv_sub hl [0, 1, 2, 4] rfl)
  have hP := hP0; have hD := hD0; have hS := hS0; have hl := hl0; have hw := hw0
  obtain ⟨H, hH⟩ : ∃ H : Heap, H = s.heap := ⟨_, rfl⟩
  obtain ⟨locs, hlocs⟩ : ∃ L : List Loc, L = [] := ⟨_, rfl⟩
  rw [← hH] at hP
  have hS : va_S Ad s.heap H locs := by rw [hH, hlocs]; exact hS
  refine mw_HL hH hlocs ?_
  refine lv_aload_n hx hb dX4_writeSize_0 rfl (lv_at hl 0 rfl) ?_
  obtain ⟨hO_25, hw⟩ := hw
  refine cw_get (ci := 4) (v := .ref (r y0 3)) hx hb hts hin4 hown hK hP hO_25.1 hO_25.2 rfl 3 (by decide) (hts (.fieldLink RX4 27 "HiddenMoves$Ratio" "first" "LHiddenMoves$Big;") (List.mem_cons_of_mem _ (List.mem_append_left _ (List.mem_append_left _ (List.mem_append_left _ (List.mem_of_getElem? (i := 0) rfl)))))) (fun _ h9 => h9) rfl dX4_writeSize_1 ?_
  refine lv_aload_n hx hb dX4_writeSize_4 rfl (lv_at hl 1 rfl) ?_
  obtain ⟨hO_29, hw⟩ := hw
  have hFc := cw_free hD hS hA
  obtain ⟨q9, hq9⟩ := cw_at (C := C) (z := z) (r := r) (A := A) hO_29.1 hO_29.2
  refine va_callv (va_runV (As := [.ref y1]) (rest := []) ⟨hx, hb, hml, hown, hts⟩ (k_c0_copy l D _ C L K z r A (r y0 3) y1 _ hw) (cwV 1 hts gX4_writeSize_X0_copy rfl rfl rfl (by decide +kernel) ⟨Nat.le_of_ble_eq_true rfl, Nat.le_of_ble_eq_true rfl⟩) ⟨hm_blind, va_recv hK hP (ci := 0) (q0 := q9) rfl hq9, hm_pre hP hK hD hE⟩ rfl rfl hl.1 rfl (lv_room (Nat.le_of_ble_eq_true rfl)) dX4_writeSize_5 ⟨Nat.le_of_ble_eq_true rfl, Nat.le_of_ble_eq_true rfl⟩) hS (fun q _ h => hFc q h) hFc (fun u t H1 locs ht hvm hw hB hz1 hk1 hS => ?_)
  obtain ⟨rv_26, z_27, _, A_28⟩ := u
  obtain ⟨hP, hK1, hD1⟩ := hB
  rw [ht] at hP
  have hD := hD1.weaken (fun k q _ h => hFc q.1 h)
  have hP : va_P D vwCl (cw_w C L K z_27 r A_28) H1 := hP
  have hD : va_D Ad (cw_w C L K z_27 r A_28) := hD
  generalize H1 = H at hP hS ⊢
  refine W.eq (g2 := F0 m 8 ls []) rfl ?_
  refine lv_iload_n hx hb dX4_writeSize_8 rfl (lv_at hl 3 rfl) ?_
  refine lv_istore (lv' := [(4, .int (hz_i y3)), (0, .ref y0), (1, .ref y1), (2, .ref y2), (3, .int (hz_i y3))]) hx hb dX4_writeSize_9 hl (by decide) rfl (fun ls hl => ?_)
  refine lv_iload_n hx hb dX4_writeSize_11 rfl (lv_at hl 4 rfl) ?_
  refine lv_istore (lv' := [(5, .int (hz_i y3)), (4, .int (hz_i y3)), (0, .ref y0), (1, .ref y1), (2, .ref y2), (3, .int (hz_i y3))]) hx hb dX4_writeSize_12 hl (by decide) rfl (fun ls hl => ?_)
  exact L14 z_27 A_28 y3 y3 hw H locs ls hP hD hS (lv_sub hl [2, 4, 5, 1, 0] rfl)

noncomputable def wp_c4_write_64 (L : List Nat) (K : Nat → cw_K) (z : Nat → Nat → Int) (r : Nat → Nat → Nat) (A : Nat → Nat → Int) (x2 : Int) (Q : Int → (Nat → Nat → Int) → (Nat → Nat → Int) → Prop) : Prop := Q x2 z A
noncomputable def wp_c4_write_19 (L : List Nat) (K : Nat → cw_K) (z : Nat → Nat → Int) (r : Nat → Nat → Nat) (A : Nat → Nat → Int) (y0 : Nat) (y1 : Nat) (x2 : Int) (Q : Int → (Nat → Nat → Int) → (Nat → Nat → Int) → Prop) : Prop := cw_O L K 4 y0 ∧ wp_c4_writeSize L K z r A y0 (r y0 0) y1 x2 (fun rv_2 z_3 A_4 => cw_O L K 0 (r y0 1) ∧ wp_c0_isOne L K z_3 r A_4 (r y0 1) (fun rv_5 => hz_rI rv_5 ∧ ((¬ rv_5 = 0 → wp_c4_write_64 L K z_3 r A_4 rv_2  Q) ∧ (rv_5 = 0 → cw_A L K 2 y1 ∧ hz_rI rv_2 ∧ hz_rI (cw_n K y1 : Int) ∧ (((cw_n K y1 : Int) ≤ rv_2 → wp_c4_write_64 L K z_3 r A_4 rv_2  Q) ∧ (¬ ((cw_n K y1 : Int) ≤ rv_2) → ((0 : Int) ≤ rv_2 ∧ rv_2 < (cw_n K y1 : Int)) ∧ ∀ A_10 : Nat → Nat → Int, A_10 = hz_s A_4 y1 rv_2 47 → wp_c4_writeSize L K z_3 r A_10 y0 (r y0 1) y1 (rv_2 + 1) (fun rv_11 z_12 A_13 => wp_c4_write_64 L K z_12 r A_13 rv_11  Q)))))))
noncomputable def wp_c4_write (L : List Nat) (K : Nat → cw_K) (z : Nat → Nat → Int) (r : Nat → Nat → Nat) (A : Nat → Nat → Int) (y0 : Nat) (y1 : Nat) (Q : Int → (Nat → Nat → Int) → (Nat → Nat → Int) → Prop) : Prop := cw_O L K 4 y0 ∧ cw_O L K 0 (r y0 0) ∧ hz_rI (z (r y0 0) 2) ∧ ((z (r y0 0) 2 = 0 → wp_c4_write_19 L K z r A y0 y1 0  Q) ∧ (¬ (z (r y0 0) 2 = 0) → cw_A L K 2 y1 ∧ ((0 : Int) ≤ 0 ∧ 0 < (cw_n K y1 : Int)) ∧ ∀ A_18 : Nat → Nat → Int, A_18 = hz_s A y1 0 45 → wp_c4_write_19 L K z r A_18 y0 y1 1  Q))
set_option maxHeartbeats 4000000 in
set_option maxRecDepth 100000 in
theorem k_c4_write (l : Launch) (D : va_G) (sz : Nat) (C : Nat → ClassId) (L : List Nat) (K : Nat → cw_K) (z : Nat → Nat → Int) (r : Nat → Nat → Nat) (A : Nat → Nat → Int) (y0 : Nat) (y1 : Nat) (Q : Int → (Nat → Nat → Int) → (Nat → Nat → Int) → Prop) (hw : wp_c4_write L K z r A y0 y1 Q) : Met l yX4_write wsX4_write ({ frames := 3, cells := 0, slots := 0, locals := 78 } : Room) (va_Pc [.ref y0, .ref y1] (hm_P D (cw_w C L K z r A) (cw_t C) sz)) (va_Qi (S := Int × (Nat → Nat → Int) × (Nat → Nat → Nat) × (Nat → Nat → Int)) (fun r u => r = hz_i u.1 ∧ Q u.1 u.2.1 u.2.2.2) (fun u t => hm_B D (va_A (cw_w C L K z r A) sz) (cw_w C L K u.2.1 r u.2.2.2) (cw_t C) t) (va_A (cw_w C L K z r A) sz)) 0 0 (va_A (cw_w C L K z r A) sz) := by
  refine Met.ofW (cc := cX4_write) (maxL := 3) (ret := (some .int)) (by decide) rfl ?_
  intro p e s m args below meth c s₁ B hml hv
  obtain ⟨rfl, hsz, hP, hK, hD0, hE⟩ := hv
  have hx := B.exec
  have hb := B.bytes
  have hr := B.returns
  have hts := atoms_spec (ws := wsX4_write) B.pre
  have hown : s.vm.findClass RX4 = some m.cls := findClass_of_methodNamed B.named
  have hlocks := B.notSynchronized
  have hin0 : ∀ w ∈ u_ws RX0 TX0 3, w ∈ wsX4_write := fun w h => List.mem_cons_of_mem _ (List.mem_append_right _ (h))
  have hin4 : ∀ w ∈ u_ws RX4 TX4 6, w ∈ wsX4_write := fun w h => List.mem_cons_of_mem _ (List.mem_append_left _ (List.mem_append_right _ (h)))
  subst hsz
  have hD := hD0.self (sz := s.heap.size)
  generalize hAe : va_A (cw_w C L K z r A) s.heap.size = Ad at hD ⊢
  have hA : ∀ q : Nat, s.heap.size ≤ q → Ad q := fun q h => by rw [← hAe]; exact Or.inr h
  have hS : va_S Ad s.heap s.heap [] := va_S.rf
  have hl := lv_entry ([.ref y0, .ref y1]) (n := 3) (Nat.le_of_ble_eq_true rfl)
  rw [lg_entry_eq]
  generalize (lg_sl ([.ref y0, .ref y1]) ++ List.replicate (3 - (lg_sl ([.ref y0, .ref y1])).length) Slot.unset).toArray = ls at hl ⊢
  have hl : lv_has ls 3 [(0, .ref y0), (1, .ref y1)] := hl
  refine mw_Q (fun QQ hQQ => ?_)
  have hP0 := hP; have hD0 := hD; have hS0 := hS; have hl0 := hl; have hw0 := hw
  clear hP hD hS hl hw
  have L64 : ∀ (z : Nat → Nat → Int) (A : Nat → Nat → Int) (x2 : Int), wp_c4_write_64 L K z r A x2  Q → ∀ (H : Heap) (locs : List Loc) (ls : Array Slot), va_P D vwCl (cw_w C L K z r A) H → va_D Ad (cw_w C L K z r A) → va_S Ad s.heap H locs → lv_has ls 3 [(2, .int (hz_i x2))] → W p l e (headSpec wsX4_write ({ frames := 3, cells := 0, slots := 0, locals := 78 } : Room)).room s m (List.toArray [.ref y0, .ref y1]) below meth c H locs 0 0 QQ (F0 m 64 ls []) := by
    intro z A x2 hw H locs ls hP hD hS hl
    refine lv_iload_n hx hb dX4_write_64 rfl (lv_at hl 0 rfl) ?_
    subst hQQ
    subst hAe
    exact W.iret (v := hz_i x2) hx hb hr (fun t ht hW => ⟨⟨hz_i x2, (x2, z, r, A), rfl, ⟨rfl, hw⟩, by rw [ht]; exact hP, va_K.moved hW.alike hK, hD⟩, hS.F ht⟩) hS.2.2 dX4_write_65
  have L19 : ∀ (z : Nat → Nat → Int) (A : Nat → Nat → Int) (x2 : Int), wp_c4_write_19 L K z r A y0 y1 x2  Q → ∀ (H : Heap) (locs : List Loc) (ls : Array Slot), va_P D vwCl (cw_w C L K z r A) H → va_D Ad (cw_w C L K z r A) → va_S Ad s.heap H locs → lv_has ls 3 [(0, .ref y0), (1, .ref y1), (2, .int (hz_i x2))] → W p l e (headSpec wsX4_write ({ frames := 3, cells := 0, slots := 0, locals := 78 } : Room)).room s m (List.toArray [.ref y0, .ref y1]) below meth c H locs 0 0 QQ (F0 m 19 ls []) := by
    intro z A x2 hw H locs ls hP hD hS hl
    refine lv_aload_n hx hb dX4_write_19 rfl (lv_at hl 0 rfl) ?_
    refine lv_aload_n hx hb dX4_write_20 rfl (lv_at hl 0 rfl) ?_
    obtain ⟨hO_1, hw⟩ := hw
    refine cw_get (ci := 4) (v := .ref (r y0 0)) hx hb hts hin4 hown hK hP hO_1.1 hO_1.2 rfl 0 (by decide) (hts (.fieldLink RX4 14 "HiddenMoves$Ratio" "top" "LHiddenMoves$Big;") (List.mem_cons_of_mem _ (List.mem_append_left _ (List.mem_append_left _ (List.mem_append_left _ (List.mem_of_getElem? (i := 0) rfl)))))) (fun _ h9 => h9) rfl dX4_write_21 ?_
    refine lv_aload_n hx hb dX4_write_24 rfl (lv_at hl 1 rfl) ?_
    refine lv_iload_n hx hb dX4_write_25 rfl (lv_at hl 2 rfl) ?_
    have hFc := cw_free hD hS hA
    obtain ⟨q9, hq9⟩ := cw_at (C := C) (z := z) (r := r) (A := A) hO_1.1 hO_1.2
    refine va_calli (va_runV (As := [.ref (r y0 0), .ref y1, .int (hz_i x2)]) (rest := []) ⟨hx, hb, hml, hown, hts⟩ (k_c4_writeSize l D _ C L K z r A y0 (r y0 0) y1 x2 _ hw) (cwV 3 hts gX4_write_X4_writeSize rfl rfl rfl (by decide +kernel) ⟨Nat.le_of_ble_eq_true rfl, Nat.le_of_ble_eq_true rfl⟩) ⟨hm_blind, va_recv hK hP (ci := 4) (q0 := q9) rfl hq9, hm_pre hP hK hD hE⟩ rfl rfl hl.1 rfl (lv_room (Nat.le_of_ble_eq_true rfl)) dX4_write_26 ⟨Nat.le_of_ble_eq_true rfl, Nat.le_of_ble_eq_true rfl⟩) hS (fun q _ h => hFc q h) hFc (fun rv u t H1 locs ht hvm hw hB hz1 hk1 hS => ?_)
    obtain ⟨rv_2, z_3, _, A_4⟩ := u
    obtain ⟨hP, hK1, hD1⟩ := hB
    rw [ht] at hP
    obtain ⟨hrv, hw⟩ := hw
    subst hrv
    have hD := hD1.weaken (fun k q _ h => hFc q.1 h)
    have hP : va_P D vwCl (cw_w C L K z_3 r A_4) H1 := hP
    have hD : va_D Ad (cw_w C L K z_3 r A_4) := hD
    generalize H1 = H at hP hS ⊢
    refine W.eq (g2 := F0 m 29 ls [.int (hz_i rv_2)]) rfl ?_
    refine lv_istore_n (lv' := [(2, .int (hz_i rv_2)), (0, .ref y0), (1, .ref y1)]) hx hb dX4_write_29 rfl hl (by decide) rfl (fun ls hl => ?_)
    refine lv_aload_n hx hb dX4_write_30 rfl (lv_at hl 1 rfl) ?_
    refine cw_get (ci := 4) (v := .ref (r y0 1)) hx hb hts hin4 hown hK hP hO_1.1 hO_1.2 rfl 1 (by decide) (hts (.fieldLink RX4 20 "HiddenMoves$Ratio" "bottom" "LHiddenMoves$Big;") (List.mem_cons_of_mem _ (List.mem_append_left _ (List.mem_append_left _ (List.mem_append_left _ (List.mem_of_getElem? (i := 2) rfl)))))) (fun _ h9 => h9) rfl dX4_write_31 ?_
    obtain ⟨hO_6, hw⟩ := hw
    have hFc := cw_free hD hS hA
    obtain ⟨q9, hq9⟩ := cw_at (C := C) (z := z_3) (r := r) (A := A_4) hO_6.1 hO_6.2
    refine va_calli (va_runV (As := []) (rest := []) ⟨hx, hb, hml, hown, hts⟩ (k_c0_isOne l D _ C L K z_3 r A_4 (r y0 1) _ hw) (cwV 0 hts gX4_write_X0_isOne rfl rfl rfl (by decide +kernel) ⟨Nat.le_of_ble_eq_true rfl, Nat.le_of_ble_eq_true rfl⟩) ⟨hm_blind, va_recv hK hP (ci := 0) (q0 := q9) rfl hq9, hm_pre hP hK hD hE⟩ rfl rfl hl.1 rfl (lv_room (Nat.le_of_ble_eq_true rfl)) dX4_write_34 ⟨Nat.le_of_ble_eq_true rfl, Nat.le_of_ble_eq_true rfl⟩) hS (fun q _ h => hFc q h) hFc (fun rv u t H1 locs ht hvm hw hB hz1 hk1 hS => ?_)
    obtain ⟨rv_5, _, _, _⟩ := u
    obtain ⟨hP, hK1, hD1⟩ := hB
    rw [ht] at hP
    obtain ⟨hrv, hw⟩ := hw
    subst hrv
    have hD := hD1.weaken (fun k q _ h => hFc q.1 h)
    have hP : va_P D vwCl (cw_w C L K z_3 r A_4) H1 := hP
    have hD : va_D Ad (cw_w C L K z_3 r A_4) := hD
    generalize H1 = H at hP hS ⊢
    refine W.eq (g2 := F0 m 37 ls [.int (hz_i rv_5)]) rfl ?_
    obtain ⟨h9a, hw⟩ := hw
    refine hz_if_ne (tgt := 64) hx hb dX4_write_37 (by decide) h9a (fun c_7 => ?_) (fun c_7 => ?_)
    · have hw := hw.1 c_7
      exact L64 z_3 A_4 rv_2 hw H locs ls hP hD hS (lv_sub hl [0] rfl)
    · have hw := hw.2 c_7
      refine lv_iload_n hx hb dX4_write_40 rfl (lv_at hl 0 rfl) ?_
      refine lv_aload_n hx hb dX4_write_41 rfl (lv_at hl 2 rfl) ?_
      obtain ⟨hO_8, hw⟩ := hw
      refine cw_len hx hb hK hP hO_8.1 hO_8.2.2 rfl dX4_write_42 ?_
      obtain ⟨h9a, hw⟩ := hw
      obtain ⟨h9b, hw⟩ := hw
      refine hz_icmp_ge (tgt := 64) hx hb dX4_write_43 (by decide) h9a h9b (fun c_9 => ?_) (fun c_9 => ?_)
      · have hw := hw.1 c_9
        exact L64 z_3 A_4 rv_2 hw H locs ls hP hD hS (lv_sub hl [0] rfl)
      · have hw := hw.2 c_9
        refine lv_aload_n hx hb dX4_write_46 rfl (lv_at hl 2 rfl) ?_
        refine lv_iload_n hx hb dX4_write_47 rfl (lv_at hl 0 rfl) ?_
        refine lv_bipush (v := hz_i 47) hx hb dX4_write_48 (by decide +kernel) ?_
        obtain ⟨h9i, hw⟩ := hw
        refine cw_cst (v := 47) hx hb hK hP hD hS hO_8.1 hO_8.2.2 h9i hO_8.2.1 (cw_nC (v := 47) ⟨by decide, by decide⟩) dX4_write_50 (fun H locs hP hD hS => ?_)
        obtain ⟨A_10, hA_10⟩ : ∃ y : Nat → Nat → Int, y = hz_s A_4 y1 rv_2 47 := ⟨_, rfl⟩
        rw [← hA_10] at hP hD
        have hw := hw A_10 hA_10
        refine lv_aload_n hx hb dX4_write_51 rfl (lv_at hl 1 rfl) ?_
        refine lv_aload_n hx hb dX4_write_52 rfl (lv_at hl 1 rfl) ?_
        refine cw_get (ci := 4) (v := .ref (r y0 1)) hx hb hts hin4 hown hK hP hO_1.1 hO_1.2 rfl 1 (by decide) (hts (.fieldLink RX4 20 "HiddenMoves$Ratio" "bottom" "LHiddenMoves$Big;") (List.mem_cons_of_mem _ (List.mem_append_left _ (List.mem_append_left _ (List.mem_append_left _ (List.mem_of_getElem? (i := 2) rfl)))))) (fun _ h9 => h9) rfl dX4_write_53 ?_
        refine lv_aload_n hx hb dX4_write_56 rfl (lv_at hl 2 rfl) ?_
        refine lv_iload_n hx hb dX4_write_57 rfl (lv_at hl 0 rfl) ?_
        refine lv_iconst (v := hz_i 1) hx hb dX4_write_58 (by decide +kernel) ?_
        refine hz_iadd hx hb dX4_write_59 ?_
        have hFc := cw_free hD hS hA
        obtain ⟨q9, hq9⟩ := cw_at (C := C) (z := z_3) (r := r) (A := A_10) hO_1.1 hO_1.2
        refine va_calli (va_runV (As := [.ref (r y0 1), .ref y1, .int (hz_i (rv_2 + 1))]) (rest := []) ⟨hx, hb, hml, hown, hts⟩ (k_c4_writeSize l D _ C L K z_3 r A_10 y0 (r y0 1) y1 (rv_2 + 1) _ hw) (cwV 3 hts gX4_write_X4_writeSize rfl rfl rfl (by decide +kernel) ⟨Nat.le_of_ble_eq_true rfl, Nat.le_of_ble_eq_true rfl⟩) ⟨hm_blind, va_recv hK hP (ci := 4) (q0 := q9) rfl hq9, hm_pre hP hK hD hE⟩ rfl rfl hl.1 rfl (lv_room (Nat.le_of_ble_eq_true rfl)) dX4_write_60 ⟨Nat.le_of_ble_eq_true rfl, Nat.le_of_ble_eq_true rfl⟩) hS (fun q _ h => hFc q h) hFc (fun rv u t H1 locs ht hvm hw hB hz1 hk1 hS => ?_)
        obtain ⟨rv_11, z_12, _, A_13⟩ := u
        obtain ⟨hP, hK1, hD1⟩ := hB
        rw [ht] at hP
        obtain ⟨hrv, hw⟩ := hw
        subst hrv
        have hD := hD1.weaken (fun k q _ h => hFc q.1 h)
        have hP : va_P D vwCl (cw_w C L K z_12 r A_13) H1 := hP
        have hD : va_D Ad (cw_w C L K z_12 r A_13) := hD
        generalize H1 = H at hP hS ⊢
        refine W.eq (g2 := F0 m 63 ls [.int (hz_i rv_11)]) rfl ?_
        refine lv_istore_n (lv' := [(2, .int (hz_i rv_11)), (0, .ref y0), (1, .ref y1)]) hx hb dX4_write_63 rfl hl (by decide) rfl (fun ls hl => ?_)
        exact L64 z_12 A_13 rv_11 hw H locs ls hP hD hS (lv_sub hl [0] rfl)
  have hP := hP0; have hD := hD0; have hS := hS0; have hl := hl0; have hw := hw0
  obtain ⟨H, hH⟩ : ∃ H : Heap, H = s.heap := ⟨_, rfl⟩
  obtain ⟨locs, hlocs⟩ : ∃ L : List Loc, L = [] := ⟨_, rfl⟩
  rw [← hH] at hP
  have hS : va_S Ad s.heap H locs := by rw [hH, hlocs]; exact hS
  refine mw_HL hH hlocs ?_
  refine lv_iconst (v := hz_i 0) hx hb dX4_write_0 (by decide +kernel) ?_
  refine lv_istore_n (lv' := [(2, .int (hz_i 0)), (0, .ref y0), (1, .ref y1)]) hx hb dX4_write_1 rfl hl (by decide) rfl (fun ls hl => ?_)
  refine lv_aload_n hx hb dX4_write_2 rfl (lv_at hl 1 rfl) ?_
  obtain ⟨hO_14, hw⟩ := hw
  refine cw_get (ci := 4) (v := .ref (r y0 0)) hx hb hts hin4 hown hK hP hO_14.1 hO_14.2 rfl 0 (by decide) (hts (.fieldLink RX4 14 "HiddenMoves$Ratio" "top" "LHiddenMoves$Big;") (List.mem_cons_of_mem _ (List.mem_append_left _ (List.mem_append_left _ (List.mem_append_left _ (List.mem_of_getElem? (i := 0) rfl)))))) (fun _ h9 => h9) rfl dX4_write_3 ?_
  obtain ⟨hO_15, hw⟩ := hw
  refine cw_get (ci := 0) (v := .int (hz_i (z (r y0 0) 2))) hx hb hts hin0 hown hK hP hO_15.1 hO_15.2 rfl 2 (by decide) (hts (.fieldLink RX4 80 "HiddenMoves$Big" "below" "Z") (List.mem_cons_of_mem _ (List.mem_append_left _ (List.mem_append_left _ (List.mem_append_left _ (List.mem_of_getElem? (i := 1) rfl)))))) (fun _ h9 => h9) rfl dX4_write_6 ?_
  obtain ⟨h9a, hw⟩ := hw
  refine hz_if_eq (tgt := 19) hx hb dX4_write_9 (by decide) h9a (fun c_16 => ?_) (fun c_16 => ?_)
  · have hw := hw.1 c_16
    exact L19 z A 0 hw H locs ls hP hD hS (lv_sub hl [1, 2, 0] rfl)
  · have hw := hw.2 c_16
    refine lv_aload_n hx hb dX4_write_12 rfl (lv_at hl 2 rfl) ?_
    refine lv_iconst (v := hz_i 0) hx hb dX4_write_13 (by decide +kernel) ?_
    refine lv_bipush (v := hz_i 45) hx hb dX4_write_14 (by decide +kernel) ?_
    obtain ⟨hO_17, hw⟩ := hw
    obtain ⟨h9i, hw⟩ := hw
    refine cw_cst (v := 45) hx hb hK hP hD hS hO_17.1 hO_17.2.2 h9i hO_17.2.1 (cw_nC (v := 45) ⟨by decide, by decide⟩) dX4_write_16 (fun H locs hP hD hS => ?_)
    obtain ⟨A_18, hA_18⟩ : ∃ y : Nat → Nat → Int, y = hz_s A y1 0 45 := ⟨_, rfl⟩
    rw [← hA_18] at hP hD
    have hw := hw A_18 hA_18
    refine lv_iconst (v := hz_i 1) hx hb dX4_write_17 (by decide +kernel) ?_
    refine lv_istore_n (lv' := [(2, .int (hz_i 1)), (0, .ref y0), (1, .ref y1)]) hx hb dX4_write_18 rfl hl (by decide) rfl (fun ls hl => ?_)
    exact L19 z A_18 1 hw H locs ls hP hD hS (lv_sub hl [1, 2, 0] rfl)
